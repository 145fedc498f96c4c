/** Promises 6 to 11 and 59: the PORT as it is told. */
public final class PortTest {
    // 3 is higher than all, 4 lies by itself.
    private static final String TEXT = "port days 3 law 2 odds 7;"
            + "house high 2;house high 9;house high 4;house high 20;house high 0;"
            + "way 0 1;way 1 3;way 0 2;way 2 3;way 1 0;"
            + "carrier at 0 strong 0;carrier at 4 strong 99;"
            + "slate at 3 word 1 word 30;slate at 0 word 7;"
            + "carry 0 1 to 1 at 2;";

    private static final Check CHECK = new Check();
    private static final SlateHands HANDS = Ports.of(TEXT);

    private PortTest() {
    }

    public static void main(String[] args) {
        promise6();
        promise7();
        promise8();
        promise9();
        promise10();
        promise11();
        promise59();
        CHECK.finish();
    }

    private static void promise6() {
        int[] high = {2, 9, 4, 20, 0};
        for (int h = 0; h < 5; h++) {
            CHECK.due("house(" + h + ")", HANDS.house(h), high[h]);
        }
        CHECK.due("house(5)", HANDS.house(5), -2);
        CHECK.due("house(-1)", HANDS.house(-1), -2);
    }

    private static void promise7() {
        CHECK.due("carrier(0, 0)", HANDS.carrier(0, 0), 0);
        CHECK.due("carrier(0, 1)", HANDS.carrier(0, 1), 0);
        CHECK.due("carrier(1, 0)", HANDS.carrier(1, 0), 4);
        CHECK.due("carrier(1, 1)", HANDS.carrier(1, 1), 99);
        CHECK.due("carrier(1, 2)", HANDS.carrier(1, 2), -2);
        CHECK.due("carrier(1, -1)", HANDS.carrier(1, -1), -2);
        CHECK.due("carrier(2, 0)", HANDS.carrier(2, 0), -2);
        CHECK.due("carrier(-1, 0)", HANDS.carrier(-1, 0), -2);
    }

    private static void promise8() {
        CHECK.due("word(0, 0)", HANDS.word(0, 0), 1);
        CHECK.due("word(0, 1)", HANDS.word(0, 1), 30);
        CHECK.due("word(1, 0)", HANDS.word(1, 0), 7);
        CHECK.due("word(0, 2)", HANDS.word(0, 2), SlateHands.NONE);
        CHECK.due("word(0, -1)", HANDS.word(0, -1), SlateHands.NONE);
        CHECK.due("word(1, 1)", HANDS.word(1, 1), SlateHands.NONE);
        CHECK.due("word(2, 0)", HANDS.word(2, 0), -2);
        CHECK.due("word(-1, 9)", HANDS.word(-1, 9), -2);
    }

    private static void promise9() {
        int[] doors = {0b00110, 0b01001, 0b01001, 0b00110, 0};
        for (int h = 0; h < 5; h++) {
            CHECK.due("doors(" + h + ")", HANDS.doors(h), doors[h]);
        }
        CHECK.due("doors(5)", HANDS.doors(5), -2);
        CHECK.due("doors(-1)", HANDS.doors(-1), -2);
    }

    private static void promise10() {
        CHECK.due("far(0, 0)", HANDS.far(0, 0), 0);
        CHECK.due("far(0, 1)", HANDS.far(0, 1), 1);
        CHECK.due("far(0, 3)", HANDS.far(0, 3), 2);
        CHECK.due("far(1, 2)", HANDS.far(1, 2), 2);
        CHECK.due("far(0, 4)", HANDS.far(0, 4), SlateHands.NONE);
        CHECK.due("far(4, 0)", HANDS.far(4, 0), SlateHands.NONE);
        CHECK.due("far(4, 4)", HANDS.far(4, 4), 0);
        CHECK.due("far(0, 5)", HANDS.far(0, 5), -2);
        CHECK.due("far(-1, 0)", HANDS.far(-1, 0), -2);
        StringBuilder row = new StringBuilder("port days 1 law 0 odds 0;" + "house high 0;".repeat(8));
        for (int h = 7; h > 0; h--) {
            row.append("way ").append(h).append(' ').append(h - 1).append(';');
        }
        SlateHands hands = Ports.of(row.toString());
        CHECK.due("far(0, 7) in a row", hands.far(0, 7), 7);
        CHECK.due("far(7, 0) in a row", hands.far(7, 0), 7);
        CHECK.due("climb(7, 0) in a row", hands.climb(7, 0), 0);
    }

    private static void promise11() {
        CHECK.due("climb(0, 0)", HANDS.climb(0, 0), 0);
        CHECK.due("climb(0, 3), by either way", HANDS.climb(0, 3), 18);
        CHECK.due("climb(3, 0)", HANDS.climb(3, 0), 0);
        CHECK.due("climb(1, 2), by 0 rather than 3", HANDS.climb(1, 2), 2);
        CHECK.due("climb(2, 1)", HANDS.climb(2, 1), 7);
        CHECK.due("climb(0, 4)", HANDS.climb(0, 4), SlateHands.NONE);
        CHECK.due("climb(4, 4)", HANDS.climb(4, 4), 0);
        CHECK.due("climb(5, 0)", HANDS.climb(5, 0), -2);
        CHECK.due("climb(0, -1)", HANDS.climb(0, -1), -2);
        SlateHands round = Ports.of("port days 1 law 0 odds 0;"
                + "house high 0;house high 20;house high 5;house high 4;house high 6;"
                + "way 0 1;way 1 4;way 4 3;way 3 2;way 2 0;");
        CHECK.due("climb(0, 4), by three WAYS rather than two", round.climb(0, 4), 7);
        CHECK.due("far(0, 4), by two", round.far(0, 4), 2);
    }

    private static void promise59() {
        int[] counts = {3, 2, 7, 5, 5, 2, 2, 1, 0, 14 + 2, 0, 0};
        for (int what = 0; what < counts.length; what++) {
            CHECK.due("count(" + what + ")", HANDS.count(what), counts[what]);
        }
        CHECK.due("count(12)", HANDS.count(12), SlateHands.NONE);
        CHECK.due("count(-1)", HANDS.count(-1), SlateHands.NONE);
        SlateHands hands = Ports.of(TEXT);
        hands.carry(0, 0, 0, 0);
        hands.rub(0, 0);
        hands.row(3, 0, 0);
        hands.row(1, 0, 5);
        hands.feed(0, 0, 0, 0, 0);
        CHECK.due("CARRIES told, without acts", hands.count(7), 1);
        CHECK.due("acts", hands.count(8), 2);
        CHECK.due("bytes", hands.count(10), 20);
        CHECK.due("SLOTS", hands.count(11), 2);
    }
}
