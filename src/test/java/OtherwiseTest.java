/** Promises 40 to 46, 48 and 49: what would be otherwise (Terms VI and VII). */
public final class OtherwiseTest {
    // The slate is carried 0, 1, 2, 3; by any LAW but 0 its two WORDS are gone in 3.
    private static final String REST = " odds 10;house high 0;house high 0;house high 0;house high 0;"
            + "way 0 1;way 1 2;way 0 1;way 2 3;"
            + "carrier at 0 strong 50;"
            + "slate at 0 word 2 word 5;"
            + "carry 0 0 to 1 at 0;carry 0 0 to 2 at 1;carry 0 0 to 3 at 2;";
    private static final String TEXT = "port days 3 law 1" + REST;

    private static final Check CHECK = new Check();
    private static final SlateHands HANDS = Ports.of(TEXT);

    private OtherwiseTest() {
    }

    public static void main(String[] args) {
        promise40();
        promises41and42();
        promise43();
        promises44and45();
        promise46();
        wrongRows();
        promise48();
        promise49();
        actsToo();
        CHECK.finish();
    }

    private static void promise40() {
        CHECK.due("block(0), as another WAY 0 1 stays", HANDS.block(0), 1);
        CHECK.due("block(1)", HANDS.block(1), -2);
        CHECK.due("block(-1)", HANDS.block(-1), -2);
        SlateHands kept = Ports.of("port days 3 law 0" + REST.replace(" word 5", ""));
        CHECK.due("by(0, 1)", kept.by(0, 1), 3);
        CHECK.due("block(0), by the LAW told", kept.block(0), 1);
        SlateHands single = Ports.of(TEXT.replace("way 0 1;way 1 2;way 0 1;", "way 2 1;way 1 0;"));
        CHECK.due("block(0), without it", single.block(0), 1);
        SlateHands none = Ports.of(TEXT.substring(0, TEXT.indexOf("carry")));
        CHECK.due("block(0), not fewer than now", none.block(0), SlateHands.NONE);
        SlateHands several = Ports.of("port days 3 law 0 odds 0;house high 0;house high 0;house high 0;way 2 1;way 0 2;"
                + "carrier at 0 strong 9;slate at 0 word 1;carry 0 0 to 2 at 0;carry 0 0 to 1 at 1;");
        CHECK.due("block(0), fewest", several.block(0), 1);
        several.rub(0, 0);
        CHECK.due("block(0), none hears anyway", several.block(0), SlateHands.NONE);
        SlateHands first = Ports.of("port days 2 law 0 odds 0;house high 0;house high 0;house high 0;way 0 1;way 2 0;"
                + "carrier at 0 strong 9;carrier at 0 strong 9;slate at 0 word 1;"
                + "carry 0 0 to 1 at 0;carry 0 0 to 0 at 1;");
        CHECK.due("block(0), the WAY used", first.block(0), 0);
        SlateHands twoSlates = Ports.of("port days 2 law 0 odds 0;house high 0;house high 0;house high 0;way 0 1;way 0 2;"
                + "carrier at 0 strong 9;carrier at 0 strong 9;slate at 0 word 1;slate at 0 word 1;"
                + "carry 0 0 to 1 at 0;carry 1 1 to 2 at 0;");
        CHECK.due("block(1), of this SLATE alone", twoSlates.block(1), 1);
        SlateHands tie = Ports.of("port days 2 law 0 odds 0;house high 0;house high 0;house high 0;way 0 1;way 1 2;way 2 0;"
                + "carrier at 0 strong 9;slate at 0 word 1;carry 0 0 to 1 at 0;carry 0 0 to 0 at 1;carry 0 0 to 2 at 0;");
        CHECK.due("block(0): without WAY 0 it goes to 2", tie.block(0), SlateHands.NONE);
    }

    private static void promises41and42() {
        int[] by = {15, 7, 7, 7};
        for (int law = 0; law < 4; law++) {
            SlateHands hands = Ports.of("port days 3 law " + law + REST);
            CHECK.due("told by LAW " + law + ": heard", hands.heard(0, 3), by[law]);
            CHECK.due("law(0)", hands.law(0), 0);
            for (int other = 0; other < 4; other++) {
                CHECK.due("told by LAW " + law + ": by(0, " + other + ")", hands.by(0, other), by[other]);
            }
            CHECK.due("as told still", hands.heard(0, 3), by[law]);
        }
        CHECK.due("by(0, 4)", HANDS.by(0, 4), -2);
        CHECK.due("by(0, -1)", HANDS.by(0, -1), -2);
        CHECK.due("by(1, 0)", HANDS.by(1, 0), -2);
        CHECK.due("law(1)", HANDS.law(1), -2);
        CHECK.due("law(-1)", HANDS.law(-1), -2);
        // Up to 3 he brings it only if the heavy WORD is gone by then.
        SlateHands weak = Ports.of(TEXT.replace("strong 50", "strong 9").replace("house high 0;way", "house high 6;way")
                .replace("word 2 word 5", "word 1 word 1 word 5 word 1 word 1"));
        int[] weakBy = {7, 7, 15, 7};
        for (int law = 0; law < 4; law++) {
            CHECK.due("weak: by(0, " + law + ")", weak.by(0, law), weakBy[law]);
        }
        CHECK.due("weak: law(0)", weak.law(0), 2);
        CHECK.due("law, the least of several", Ports.of(TEXT.substring(0, TEXT.indexOf("carry"))).law(0), 0);
    }

    private static void promise43() {
        Ports.row(HANDS);
        CHECK.due("no numbers told", HANDS.firsts(0, 0), 15);
        Ports.row(HANDS, 0, 2);
        CHECK.due("on DAY 0", HANDS.firsts(0, 0), 4);
        Ports.row(HANDS, 1, 1);
        CHECK.due("carried to 1, or there at first", HANDS.firsts(0, 0), 3);
        Ports.row(HANDS, 3, 3);
        CHECK.due("on the last DAY", HANDS.firsts(0, 0), 9);
        Ports.row(HANDS, 1, 1, 2, 1);
        CHECK.due("both", HANDS.firsts(0, 0), 2);
        Ports.row(HANDS, 1, 1, 1, 2);
        CHECK.due("neither", HANDS.firsts(0, 0), 0);
        CHECK.due("as told still", HANDS.lies(0, 0), 0);
    }

    private static void promises44and45() {
        SlateHands unasked = Ports.of(TEXT);
        Ports.row(unasked, 2, 2, 0, 0);
        CHECK.due("leaves, asked first", unasked.leaves(0, 0), 1);
        Ports.row(HANDS);
        CHECK.due("ask: four", HANDS.ask(0, 0), 0);
        CHECK.due("leaves: four", HANDS.leaves(0, 0), 1);
        Ports.row(HANDS, 3, 3);
        CHECK.due("ask: two", HANDS.ask(0, 0), 0);
        CHECK.due("leaves: two", HANDS.leaves(0, 0), 1);
        Ports.row(HANDS, 2, 2, 0, 0);
        CHECK.due("ask: one", HANDS.ask(0, 0), SlateHands.NONE);
        CHECK.due("leaves: one", HANDS.leaves(0, 0), 1);
        Ports.row(HANDS, 1, 1, 1, 2);
        CHECK.due("ask: none", HANDS.ask(0, 0), SlateHands.NONE);
        CHECK.due("leaves: none", HANDS.leaves(0, 0), 0);
    }

    private static void promise46() {
        Ports.row(HANDS);
        CHECK.due("laws as heavy as now", HANDS.laws(0, 0), 14);
        Ports.row(HANDS, 2, 2);
        CHECK.due("laws by which it lies there", HANDS.laws(0, 0), 14);
        Ports.row(HANDS, 2, 1);
        CHECK.due("laws by which it does not", HANDS.laws(0, 0), 0);
        SlateHands kept = Ports.of("port days 3 law 0" + REST);
        Ports.row(kept, 3, 3);
        CHECK.due("laws, LAW 0 now", kept.laws(0, 0), 1);
        SlateHands alike = Ports.of("port days 3 law 3" + REST.replace("word 2 word 5", "word 4 word 4 word 4 word 5"));
        Ports.row(alike, 3, 3);
        CHECK.due("laws, as heavy with other WORDS", alike.laws(0, 0), 8 + 4);
    }

    private static void wrongRows() {
        SlateHands hands = Ports.of(TEXT);
        hands.row(1, 3, 3);
        rowDue(hands, 0, 0, -6, "a SLOT that has nothing");
        rowDue(hands, 4, 0, -2, "no such SLOT");
        rowDue(hands, -1, 0, -2, "no such SLOT");
        rowDue(hands, 0, 1, -2, "no such SLATE, asked ahead of -6");
        rowDue(hands, 0, -1, -2, "no such SLATE, asked ahead of -6");
        rowDue(hands, 1, 0, -2, "not two each");
        Ports.row(hands, 3, 3, 4, 0);
        rowDue(hands, 0, 0, -2, "no such DAY");
        Ports.row(hands, 0, 0, 0, 0);
        Ports.row(hands, -1, 0);
        rowDue(hands, 0, 0, -2, "no such DAY");
        Ports.row(hands, 3, 3, 0, 4);
        Ports.row(hands, 3, 3);
        rowDue(hands, 0, 9, -2, "no such SLATE");
        CHECK.due("a shorter row than it was", hands.firsts(0, 0), 9);
        Ports.row(hands, 3, 4);
        rowDue(hands, 0, 0, -2, "no such HOUSE");
        Ports.row(hands, 3, -1);
        rowDue(hands, 0, 0, -2, "no such HOUSE");
        Ports.row(hands, 4294967296L, 0);
        rowDue(hands, 0, 0, -2, "a DAY far off");
        Ports.row(hands, 0, 4294967296L);
        rowDue(hands, 0, 0, -2, "a HOUSE far off");
        rowDue(new SlateHands(), 0, 0, -2, "no PORT");
    }

    private static void rowDue(SlateHands hands, int slot, int slate, int due, String name) {
        CHECK.due(name + ": firsts", hands.firsts(slot, slate), due);
        CHECK.due(name + ": ask", hands.ask(slot, slate), due);
        CHECK.due(name + ": leaves", hands.leaves(slot, slate), due);
        CHECK.due(name + ": laws", hands.laws(slot, slate), due);
    }

    private static void promise48() {
        CHECK.due("rests(0, 1, 2)", HANDS.rests(0, 1, 2), 4 + 8);
        CHECK.due("rests(0, 2, 1)", HANDS.rests(0, 2, 1), 2 + 8);
        CHECK.due("rests(0, 1, 1)", HANDS.rests(0, 1, 1), -2);
        CHECK.due("rests(1, 1, 2)", HANDS.rests(1, 1, 2), -2);
        CHECK.due("rests(0, 4, 2)", HANDS.rests(0, 4, 2), -2);
        CHECK.due("rests(0, 1, -1)", HANDS.rests(0, 1, -1), -2);
        // Three WORDS to be heard in each, in 2 only behind 1: both open, or 1 open alone never.
        SlateHands both = Ports.of("port days 3 law 0" + REST.replace("word 2 word 5", "word 2 word 5 word 1"));
        CHECK.due("both better open", both.rests(0, 1, 2), 1);
        SlateHands even = Ports.of("port days 3 law 0" + REST);
        CHECK.due("all the same but where 1 shuts and 2 does not", even.rests(0, 1, 2), 1 + 4 + 8);
        CHECK.due("where it lies at first, better shut", both.rests(0, 0, 1), 2);
    }

    private static void promise49() {
        int[][] due = {{2, 2}, {2, 2}};
        int[][] dueOther = {{1, 2}, {0, 2}};
        for (int shuts = 0; shuts < 2; shuts++) {
            for (int otherShuts = 0; otherShuts < 2; otherShuts++) {
                String choices = shuts + ", " + otherShuts + ")";
                CHECK.due("gets(0, 1, 2, " + choices, HANDS.gets(0, 1, 2, shuts, otherShuts), due[shuts][otherShuts]);
                CHECK.due("gets(0, 2, 1, .." + choices, HANDS.gets(0, 2, 1, otherShuts, shuts), dueOther[shuts][otherShuts]);
            }
        }
        CHECK.due("gets where it lies at first, shut", HANDS.gets(0, 0, 3, 1, 0), 4);
        CHECK.due("gets(0, 1, 1, 0, 0)", HANDS.gets(0, 1, 1, 0, 0), -1000);
        CHECK.due("gets(0, 1, 4, 0, 0)", HANDS.gets(0, 1, 4, 0, 0), -1000);
        CHECK.due("gets(0, -1, 1, 0, 0)", HANDS.gets(0, -1, 1, 0, 0), -1000);
        CHECK.due("gets(1, 1, 2, 0, 0)", HANDS.gets(1, 1, 2, 0, 0), -1000);
        CHECK.due("gets(0, 1, 2, 2, 0)", HANDS.gets(0, 1, 2, 2, 0), -1000);
        CHECK.due("gets(0, 1, 2, 0, -1)", HANDS.gets(0, 1, 2, 0, -1), -1000);
        CHECK.due("as told still", HANDS.why(0), 0);
        HANDS.by(0, 0);
        CHECK.due("by the LAW told", HANDS.gets(0, 3, 0, 0, 0), 0);
        SlateHands away = Ports.of("port days 2 law 0 odds 0;house high 0;house high 0;house high 0;way 0 1;way 0 2;"
                + "carrier at 1 strong 9;slate at 1 word 1;carry 0 0 to 0 at 0;carry 0 0 to 2 at 1;");
        CHECK.due("carried away from a HOUSE that shuts", away.gets(0, 2, 1, 0, 1), 1);
    }

    private static void actsToo() {
        SlateHands hands = Ports.of(TEXT);
        hands.rub(0, 1);
        CHECK.due("by, with an act", hands.by(0, 0), 15);
        CHECK.due("by, with an act", hands.by(0, 1), 3);
        CHECK.due("gets, with an act", hands.gets(0, 1, 2, 0, 0), 1);
        hands.carry(0, 0, 1, 2);
        Ports.row(hands, 3, 3);
        CHECK.due("firsts, with an act", hands.firsts(0, 0), 9);
    }
}
