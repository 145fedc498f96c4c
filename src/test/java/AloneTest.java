/** Promises 31 to 39: one CARRIER alone, CARTS and SHARES (Terms III to V). */
public final class AloneTest {
    // 10 heavy, 4 behind the first HOUSE, 1 behind the second: 15 to 1, then all up to 3; 19 to 3 at once.
    private static final String TEXT = "port days 2 law 1 odds 10;"
            + "house high 0;house high 5;house high 5;house high 9;house high 0;"
            + "way 0 1;way 1 2;way 2 3;way 0 3;"
            + "carrier at 4 strong 12;carrier at 0 strong 15;carrier at 0 strong 4;"
            + "slate at 0 word 6 word 3 word 1;"
            + "carry 1 0 to 3 at 0;";

    private static final Check CHECK = new Check();
    private static final SlateHands HANDS = Ports.of(TEXT);

    private AloneTest() {
    }

    public static void main(String[] args) {
        promise31();
        promise32();
        promise33();
        promise34();
        promise35();
        promise36();
        promise37();
        promise38();
        promise39();
        wordsLeft();
        none();
        CHECK.finish();
    }

    private static void promise31() {
        int[] brings = {0, 1, 2, 3, -1};
        for (int h = 0; h < 5; h++) {
            CHECK.due("brings(1, 0, " + h + ")", HANDS.brings(1, 0, h), brings[h]);
            CHECK.due("brings(0, 0, " + h + ")", HANDS.brings(0, 0, h), h == 0 ? 0 : -1);
        }
        CHECK.due("brings(3, 0, 0)", HANDS.brings(3, 0, 0), -2);
        CHECK.due("brings(-1, 0, 0)", HANDS.brings(-1, 0, 0), -2);
        CHECK.due("brings(0, 1, 0)", HANDS.brings(0, 1, 0), -2);
        CHECK.due("brings(0, 0, 5)", HANDS.brings(0, 0, 5), -2);
        SlateHands lighter = Ports.of("port days 1 law 2 odds 0;house high 0;house high 0;house high 0;house high 9;"
                + "way 0 1;way 0 2;way 0 3;carrier at 0 strong 16;slate at 0 word 5 word 1 word 4 word 3;");
        CHECK.due("brings, made lighter in one HOUSE ahead", lighter.brings(0, 0, 3), 5);
        CHECK.due("saves then", lighter.saves(0, 0, 3), 2);
        CHECK.due("needs for it", lighter.needs(0, 3), 13);
    }

    private static void promise32() {
        int[] saves = {3, 3, 2, 2, -1};
        for (int h = 0; h < 5; h++) {
            CHECK.due("saves(1, 0, " + h + ")", HANDS.saves(1, 0, h), saves[h]);
            CHECK.due("saves(2, 0, " + h + ")", HANDS.saves(2, 0, h), h == 0 ? 3 : -1);
        }
        CHECK.due("saves(3, 0, 0)", HANDS.saves(3, 0, 0), -2);
        CHECK.due("saves(0, -1, 0)", HANDS.saves(0, -1, 0), -2);
        CHECK.due("saves(0, 0, 5)", HANDS.saves(0, 0, 5), -2);
        // 1 is too high at first, so 3 is come to by 2.
        SlateHands slow = Ports.of("port days 1 law 3 odds 0;house high 0;house high 9;house high 0;house high 3;"
                + "way 0 1;way 1 3;way 0 2;way 2 3;carrier at 0 strong 9;slate at 0 word 3 word 3;");
        CHECK.due("saves by the lower HOUSE", slow.saves(0, 0, 3), 1);
        CHECK.due("saves in the higher one, from behind", slow.saves(0, 0, 1), 0);
    }

    private static void promise33() {
        CHECK.due("can(0, 0)", HANDS.can(0, 0), 1);
        CHECK.due("can(1, 0)", HANDS.can(1, 0), 15);
        CHECK.due("can(2, 0)", HANDS.can(2, 0), 1);
        CHECK.due("can, from another HOUSE", Ports.of(TEXT.replace("slate at 0", "slate at 1")).can(2, 0), 2);
        CHECK.due("can(3, 0)", HANDS.can(3, 0), -2);
        CHECK.due("can(0, 1)", HANDS.can(0, 1), -2);
        CHECK.due("can(-1, 0)", HANDS.can(-1, 0), -2);
    }

    private static void promise34() {
        int[] needs = {0, 15, 15, 15, -1};
        for (int h = 0; h < 5; h++) {
            CHECK.due("needs(0, " + h + ")", HANDS.needs(0, h), needs[h]);
        }
        CHECK.due("needs(1, 0)", HANDS.needs(1, 0), -2);
        CHECK.due("needs(0, 5)", HANDS.needs(0, 5), -2);
        CHECK.due("needs(0, -1)", HANDS.needs(0, -1), -2);
        SlateHands most = Ports.of("port days 1 law 0 odds 0;house high 0;house high 20;way 0 1;"
                + "slate at 0" + " word 30".repeat(6) + ";");
        CHECK.due("needs, the most", most.needs(0, 1), 200);
        for (int i = 0; i < 6; i++) {
            most.rub(0, i);
        }
        CHECK.due("needs, without WORDS", most.needs(0, 1), 20);
    }

    private static void promise35() {
        CHECK.due("porter(0, 0)", HANDS.porter(0, 0), 0);
        CHECK.due("porter(0, 2)", HANDS.porter(0, 2), 1);
        CHECK.due("porter(0, 4)", HANDS.porter(0, 4), SlateHands.NONE);
        CHECK.due("porter(1, 0)", HANDS.porter(1, 0), -2);
        CHECK.due("porter(0, 5)", HANDS.porter(0, 5), -2);
        SlateHands hands = Ports.of(TEXT);
        hands.rate(2, 19);
        CHECK.due("porter(0, 3), in fewest DAYS", hands.porter(0, 3), 2);
        CHECK.due("porter(0, 1), the first of several", hands.porter(0, 1), 1);
        hands.rate(0, 99);
        CHECK.due("porter(0, 3), the first of several", hands.porter(0, 3), 0);
    }

    private static void promise36() {
        int[] tells = {1, 2, 3, 4, 4, 4, 4, 4};
        for (int n = 0; n < 8; n++) {
            CHECK.due("tells(1, 0, " + n + ")", HANDS.tells(1, 0, n), tells[n]);
            CHECK.due("tells(0, 0, " + n + ")", HANDS.tells(0, 0, n), 1);
        }
        CHECK.due("tells(1, 0, 8)", HANDS.tells(1, 0, 8), -2);
        CHECK.due("tells(1, 0, -1)", HANDS.tells(1, 0, -1), -2);
        CHECK.due("tells(3, 0, 0)", HANDS.tells(3, 0, 0), -2);
        CHECK.due("tells(0, 1, 0)", HANDS.tells(0, 1, 0), -2);
        SlateHands hands = Ports.of(TEXT);
        hands.rub(0, 0);
        hands.rate(1, 15);
        CHECK.due("tells, a WORD rubbed out", hands.tells(1, 0, 7), 3);
        hands.rub(0, 1);
        CHECK.due("tells, two", hands.tells(1, 0, 7), 2);
        hands.rub(0, 2);
        CHECK.due("tells, all", hands.tells(1, 0, 7), 0);
        CHECK.due("can, with none left", hands.can(1, 0), 15);
        StringBuilder star = new StringBuilder("port days 1 law 0 odds 0;" + "house high 0;".repeat(8));
        for (int h = 1; h < 8; h++) {
            star.append("way 0 ").append(h).append(';');
        }
        SlateHands wide = Ports.of(star + "carrier at 0 strong 1;slate at 0 word 1;");
        int[] wideTells = {1, 2, 2, 3, 3, 4, 4, 5};
        for (int n = 0; n < 8; n++) {
            CHECK.due("tells in a star, " + n, wide.tells(0, 0, n), wideTells[n]);
        }
    }

    private static void promise37() {
        CHECK.due("cart(1, 0, 1): 12", HANDS.cart(1, 0, 1), SlateHands.NONE);
        CHECK.due("cart(5, 0, 3): 16", HANDS.cart(5, 0, 3), 3);
        CHECK.due("cart(6, 0, 3): 19", HANDS.cart(6, 0, 3), 1);
        SlateHands weaker = Ports.of(TEXT);
        weaker.rate(1, 14);
        CHECK.due("cart(6, 0, 3): 18", weaker.cart(6, 0, 3), 3);
        weaker.rate(1, 10);
        CHECK.due("cart(6, 0, 1): 14", weaker.cart(6, 0, 1), SlateHands.NONE);
        CHECK.due("cart(7, 0, 4)", HANDS.cart(7, 0, 4), SlateHands.NONE);
        CHECK.due("cart(1, 0, 0)", HANDS.cart(1, 0, 0), 0);
        CHECK.due("cart(0, 0, 0)", HANDS.cart(0, 0, 0), -2);
        CHECK.due("cart(8, 0, 0)", HANDS.cart(8, 0, 0), -2);
        CHECK.due("cart(-1, 0, 0)", HANDS.cart(-1, 0, 0), -2);
        CHECK.due("cart(1, 1, 0)", HANDS.cart(1, 1, 0), -2);
        CHECK.due("cart(1, 0, 5)", HANDS.cart(1, 0, 5), -2);
    }

    private static void promise38() {
        CHECK.due("four(0, 3)", HANDS.four(0, 3), 0b010);
        CHECK.due("four(0, 0)", HANDS.four(0, 0), 0b001);
        CHECK.due("four(0, 4)", HANDS.four(0, 4), SlateHands.NONE);
        CHECK.due("four(1, 0)", HANDS.four(1, 0), -2);
        CHECK.due("four(0, 5)", HANDS.four(0, 5), -2);
        SlateHands weak = Ports.of(TEXT.replace("strong 12", "strong 2").replace("strong 15", "strong 11"));
        CHECK.due("four, the least of two", weak.four(0, 3), 0b110);
        weak.rate(1, 5);
        CHECK.due("four, too weak", weak.four(0, 3), SlateHands.NONE);
        weak.rate(1, 9);
        CHECK.due("four, all", weak.four(0, 3), 0b111);
        SlateHands many = Ports.of("port days 1 law 0 odds 0;house high 0;house high 0;way 0 1;carrier at 0 strong 3;"
                + "carrier at 0 strong 3;carrier at 0 strong 4;carrier at 0 strong 8;slate at 0 word 10;");
        CHECK.due("four, fewer rather than less", many.four(0, 1), 0b1001);
    }

    private static void promise39() {
        int[] above = {1, 2, 1};
        int[] below = {2, 1, 2};
        for (int c = 0; c < 3; c++) {
            CHECK.due("share(0, " + c + ", 0)", HANDS.share(0, c, 0), above[c]);
            CHECK.due("share(0, " + c + ", 1)", HANDS.share(0, c, 1), below[c]);
        }
        CHECK.due("share(0, 3, 0)", HANDS.share(0, 3, 0), -2);
        CHECK.due("share(0, -1, 0)", HANDS.share(0, -1, 0), -2);
        CHECK.due("share(1, 0, 0)", HANDS.share(1, 0, 0), -2);
        CHECK.due("share(0, 0, 2)", HANDS.share(0, 0, 2), -2);
        SlateHands useless = Ports.of("port days 1 law 0 odds 0;house high 0;carrier at 0 strong 9;slate at 0 word 1;");
        CHECK.due("a share of 0, above", useless.share(0, 0, 0), 0);
        CHECK.due("a share of 0, below", useless.share(0, 0, 1), 1);
        // Nothing is heavy: even who is not strong at all brings it to one HOUSE more than none does.
        SlateHands light = Ports.of("port days 1 law 0 odds 0;house high 0;house high 0;way 0 1;"
                + "carrier at 0 strong 0;carrier at 0 strong 0;carrier at 0 strong 9;slate at 0 word 1;");
        light.rub(0, 0);
        for (int c = 0; c < 3; c++) {
            CHECK.due("a third, above", light.share(0, c, 0), 1);
            CHECK.due("a third, below", light.share(0, c, 1), 3);
        }
        // Five: any three of them do.
        SlateHands five = Ports.of("port days 1 law 0 odds 0;house high 0;house high 0;house high 0;way 0 1;way 1 2;"
                + "carrier at 0 strong 4;".repeat(5) + "slate at 0 word 11;");
        CHECK.due("two fifths, above", five.share(0, 4, 0), 2);
        CHECK.due("two fifths, below", five.share(0, 4, 1), 5);
    }

    private static void wordsLeft() {
        SlateHands hands = Ports.of(TEXT);
        CHECK.due("brings ahead of the act", hands.brings(0, 0, 3), SlateHands.NONE);
        hands.rub(0, 1);
        CHECK.due("brings with a WORD rubbed out", hands.brings(0, 0, 3), 3);
        CHECK.due("needs with it", hands.needs(0, 3), 12);
        CHECK.due("saves with it", hands.saves(0, 0, 0), 2);
        hands.carry(1, 0, 1, 0);
        CHECK.due("brings, whatever is carried", hands.brings(0, 0, 3), 3);
        hands.undo();
        hands.undo();
        CHECK.due("brings, taken back", hands.brings(0, 0, 3), SlateHands.NONE);
        CHECK.due("needs, taken back", hands.needs(0, 3), 15);
    }

    private static void none() {
        SlateHands bare = Ports.of("port days 1 law 0 odds 0;house high 0;slate at 0 word 1;");
        CHECK.due("no CARRIERS: porter", bare.porter(0, 0), SlateHands.NONE);
        CHECK.due("no CARRIERS: four", bare.four(0, 0), SlateHands.NONE);
        CHECK.due("no CARRIERS: cart", bare.cart(1, 0, 0), -2);
        CHECK.due("no CARRIERS: share", bare.share(0, 0, 0), -2);
        CHECK.due("no PORT: tells", new SlateHands().tells(0, 0, 0), -2);
        CHECK.due("no PORT: saves", new SlateHands().saves(0, 0, 0), -2);
    }
}
