/** The edges of promises 40 to 46, 48 and 49, and of Terms VI and VII. */
public final class OtherwiseEdgesTest {
    private static final String STAR = " odds 0;house high 0;house high 0;house high 0;way 0 1;way 0 2;"
            + "carrier at 0 strong 99;";
    private static final String BOTH = "carry 0 0 to 1 at 0;carry 0 0 to 0 at 1;carry 0 0 to 2 at 2;";

    private static final Check CHECK = new Check();

    private OtherwiseEdgesTest() {
    }

    public static void main(String[] args) {
        fullPort();
        block();
        lawsOneByOne();
        rowsOfNumbers();
        rowsOutOfBounds();
        lyingElsewhere();
        askedAbout();
        lawsOfARow();
        rests();
        noRest();
        gets();
        asTold();
        CHECK.finish();
    }

    private static void fullPort() {
        SlateHands full = Ports.of(FullPort.of(12));
        due("promise 40", full, "block(2) = 11", "block(1) = NONE", "block(0) = NONE", "block(3) = -2",
                "block(-1) = -2");
        due("promise 41", full, "by(2, 0) = 192", "by(2, 3) = 192", "by(2, 4) = -2", "by(2, -1) = -2", "by(3, 0) = -2",
                "by(-1, 0) = -2", "by(0, 3) = 1");
        due("promise 42", full, "law(2) = 0", "law(0) = 0", "law(3) = -2", "law(-1) = -2");
        Ports.row(full, 12, 7);
        due("promises 43 to 46, the last DAY, the last HOUSE", full, "firsts(0, 2) = 192", "ask(0, 2) = 0",
                "leaves(0, 2) = 1", "laws(0, 2) = 1", "firsts(0, 1) = 128", "firsts(0, 3) = -2", "ask(0, 3) = -2",
                "leaves(0, 3) = -2", "laws(0, 3) = -2");
        Ports.row(full, 11, 7);
        due("promises 43 to 46, a DAY ahead", full, "firsts(0, 2) = 128", "ask(0, 2) = NONE", "leaves(0, 2) = 1",
                "laws(0, 2) = 0");
        due("promise 48", full, "rests(2, 6, 7) = 2", "rests(2, 7, 6) = 4", "rests(2, 7, 7) = -2",
                "rests(2, 7, 8) = -2", "rests(2, 8, 7) = -2", "rests(2, -1, 7) = -2", "rests(2, 7, -1) = -2",
                "rests(3, 6, 7) = -2", "rests(-1, 6, 7) = -2", "rests(2, 8, 8) = -2");
        due("promise 49", full, "gets(2, 7, 6, 0, 0) = 6", "gets(2, 7, 6, 1, 0) = 2", "gets(2, 6, 7, 0, 1) = 6",
                "gets(2, 6, 7, 1, 1) = 8", "gets(2, 7, 6, 2, 0) = -1000", "gets(2, 7, 6, -1, 0) = -1000",
                "gets(2, 7, 6, 0, 2) = -1000", "gets(2, 7, 6, 0, -1) = -1000", "gets(2, 7, 7, 0, 0) = -1000",
                "gets(2, 7, 8, 0, 0) = -1000", "gets(2, 8, 7, 0, 0) = -1000", "gets(3, 7, 6, 0, 0) = -1000",
                "gets(-1, 7, 6, 0, 0) = -1000", "gets(2, -1, 6, 0, 0) = -1000");
    }

    private static void block() {
        String three = "slate at 0 word 1;";
        due("the first of several", Ports.of("port days 3 law 0" + STAR + three + BOTH), "block(0) = 0");
        due("the first of several, told the other way", Ports.of(("port days 3 law 0" + STAR + three + BOTH)
                .replace("way 0 1;way 0 2", "way 2 0;way 1 0")), "block(0) = 0");
        due("none is carried", Ports.of("port days 3 law 0" + STAR + three), "block(0) = NONE");
        due("no WAYS", Ports.of("port days 1 law 0 odds 0;house high 0;slate at 0 word 1;"), "block(0) = NONE");
        due("WAYS twice", Ports.of(("port days 3 law 0" + STAR + three + BOTH).replace("way 0 1;",
                "way 0 1;way 1 0;way 2 0;")), "block(0) = NONE", "heard(0, 3) = 7");
        due("one WAY of three told twice", Ports.of(("port days 3 law 0" + STAR + three + BOTH).replace("way 0 1;",
                "way 0 1;way 1 0;")), "block(0) = 2");
        String row = "port days 2 law 0 odds 0;house high 0;house high 0;house high 0;way 1 2;way 0 1;"
                + "carrier at 0 strong 9;" + three + "carry 0 0 to 1 at 0;carry 0 0 to 2 at 1;";
        due("fewest", Ports.of(row), "block(0) = 1");
        due("the WORD is gone before", Ports.of(row.replace("law 0", "law 1")), "heard(0, 2) = 3", "block(0) = 1");
        SlateHands none = Ports.of(row);
        due("none hears of it", none, "rub(0, 0) = 1", "block(0) = NONE", "undo() = 0", "block(0) = 1");
        due("only for a CARRY of an act", Ports.of(row.substring(0, row.indexOf("carry"))), "block(0) = NONE",
                "carry(0, 0, 1, 1) = 1", "block(0) = 1", "undo() = 0", "block(0) = NONE");
    }

    /** Up to 2 it is light enough by some LAWS alone. */
    private static void lawsOneByOne() {
        String[] words = {"word 5 word 1 word 1", "word 1 word 1 word 5", "word 1 word 5 word 1",
                "word 1 word 1 word 1"};
        int[][] by = {{3, 7, 7, 3}, {3, 3, 7, 7}, {3, 3, 7, 3}, {7, 7, 7, 7}};
        int[] best = {1, 2, 2, 0};
        for (int i = 0; i < words.length; i++) {
            for (int law = 0; law < 4; law++) {
                SlateHands hands = Ports.of("port days 2 law " + law
                        + " odds 0;house high 0;house high 0;house high 4;way 0 1;way 1 2;"
                        + "carrier at 0 strong 7;slate at 0 " + words[i] + ";carry 0 0 to 1 at 0;carry 0 0 to 2 at 1;");
                for (int other = 0; other < 4; other++) {
                    due("LAW " + law + " told, " + words[i], hands, "by(0, " + other + ") = " + by[i][other]);
                }
                due("LAW " + law + " told, " + words[i], hands, "by(0, 4) = -2", "by(0, -1) = -2", "law(0) = "
                        + best[i], "heard(0, 2) = " + by[i][law], "count(1) = " + law);
            }
        }
        // By LAW 2 the other SLATE gets light, and takes the CARRIER away.
        SlateHands last = Ports.of("port days 2 law 0 odds 0;house high 0;house high 0;house high 4;house high 0;"
                + "way 0 1;way 1 2;"
                + "way 3 1;carrier at 0 strong 7;carrier at 3 strong 99;slate at 0 word 1 word 1 word 5;"
                + "slate at 3 word 1 word 9 word 1;carry 0 0 to 1 at 0;carry 1 1 to 1 at 0;carry 0 1 to 3 at 1;"
                + "carry 0 0 to 2 at 1;");
        due("the last LAW alone", last, "by(0, 0) = 3", "by(0, 1) = 3", "by(0, 2) = 3", "by(0, 3) = 7", "law(0) = 3",
                "law(1) = 0");
    }

    private static void rowsOfNumbers() {
        for (int n = 0; n <= 60; n++) {
            SlateHands hands = Ports.of(FullPort.of(12));
            long due = n == 0 ? 255 : n % 2 == 0 ? 1 : -2;
            for (int width = 0; width < 4; width++) {
                due(n + " numbers", hands, "row(1, " + width + ", " + n + ") = 0", "firsts(1, 0) = " + due,
                        "laws(1, 0) = " + (due == -2 ? -2 : 15), "ask(1, 0) = " + (n == 0 ? 0 : due == -2 ? -2 : -1),
                        "leaves(1, 0) = " + (due == -2 ? -2 : 1));
            }
            if (n % 2 == 0 && n > 0) {
                due(n + " numbers, the last pair told too", hands, "write(1, " + (n - 2) + ", 12) = 0", "write(1, "
                        + (n - 1) + ", 7) = 0", "firsts(1, 2) = " + (n == 2 ? 192 : 0), "write(1, " + (n - 1)
                        + ", 8) = 0", "firsts(1, 2) = -2", "write(1, " + (n - 1) + ", 0) = 0", "write(1, " + (n - 2)
                        + ", 13) = 0", "firsts(1, 2) = -2");
            }
        }
    }

    private static void rowsOutOfBounds() {
        SlateHands full = Ports.of(FullPort.of(12));
        long[][] wrong = {{13, 0}, {-1, 0}, {0, 8}, {0, -1}, {0, 0, 13, 0}, {0, 0, 0, 8}, {0, 0, 0}, {0},
                {Long.MAX_VALUE, 0}, {0, Long.MIN_VALUE}, {1L << 32, 0}, {0, 1L << 32}, {1L << 31, 0}, {0, 1L << 63},
                {12, 7, -1, 7}, {8, 12}};
        for (long[] row : wrong) {
            Ports.row(full, row);
            due("a row of " + row.length + ", " + row[0] + " ..", full, "firsts(0, 2) = -2", "ask(0, 2) = -2",
                    "leaves(0, 2) = -2", "laws(0, 2) = -2");
        }
        due("-2 of SLOTS and SLATES is asked ahead of -6", full, "firsts(1, 0) = -6", "ask(1, 0) = -6",
                "leaves(1, 0) = -6", "laws(1, 0) = -6", "firsts(1, 3) = -2", "firsts(1, -1) = -2", "firsts(4, 0) = -2",
                "firsts(-1, 0) = -2", "ask(3, 3) = -2", "leaves(3, 3) = -2", "laws(3, 3) = -2", "ask(4, 0) = -2",
                "leaves(4, 0) = -2", "laws(4, 0) = -2", "ask(-1, 0) = -2", "leaves(-1, 0) = -2", "laws(-1, 0) = -2",
                "firsts(MAX, 0) = -2", "firsts(MIN, 0) = -2");
        SlateHands fewHouses = Ports.of("port days 12 law 0 odds 0;house high 0;house high 0;slate at 0 word 1;");
        Ports.row(fewHouses, 12, 1, 12, 1, 0, 1);
        due("DAYS there are, of HOUSES there are fewer", fewHouses, "firsts(0, 0) = 2", "leaves(0, 0) = 1",
                "laws(0, 0) = 0");
        Ports.row(fewHouses, 12, 2);
        due("a HOUSE too many", fewHouses, "firsts(0, 0) = -2");
        SlateHands fewDays = Ports.of("port days 1 law 0 odds 0;" + "house high 0;".repeat(8) + "slate at 7 word 1;");
        Ports.row(fewDays, 0, 7, 1, 7);
        due("HOUSES there are, of DAYS there are fewer", fewDays, "firsts(0, 0) = 128", "leaves(0, 0) = 1",
                "laws(0, 0) = 15");
        Ports.row(fewDays, 2, 7);
        due("a DAY too many", fewDays, "firsts(0, 0) = -2");
        Ports.told(fewDays, "port days 2 law 0 odds 0;" + "house high 0;".repeat(8) + "slate at 7 word 1;");
        due("a row stays, what is none such changes", fewDays, "firsts(0, 0) = 128");
        Ports.told(fewDays, "port days 2 law 0 odds 0;" + "house high 0;".repeat(7) + "slate at 6 word 1;");
        due("a row stays, what is none such changes", fewDays, "firsts(0, 0) = -2");
    }

    /** It lay at first in another HOUSE: there it was, and is not rubbed out; all else is as now. */
    private static void lyingElsewhere() {
        SlateHands hands = Ports.of("port days 2 law 1 odds 0;house high 0;house high 0;house high 2;way 0 1;way 1 2;"
                + "carrier at 0 strong 4;carrier at 1 strong 4;slate at 0 word 3 word 1;"
                + "carry 0 0 to 1 at 0;carry 0 0 to 2 at 1;carry 1 0 to 2 at 1;");
        // From 0 it is rubbed out in 1 and light enough for 2; from 1 it is 4 heavy still.
        Ports.row(hands, 2, 2);
        due("rubbed out in 1, if it lay in 0", hands, "firsts(0, 0) = 5", "ask(0, 0) = 0", "leaves(0, 0) = 1");
        Ports.row(hands, 2, 1);
        due("not rubbed out in 1, if it lay there", hands, "firsts(0, 0) = 2", "ask(0, 0) = NONE", "leaves(0, 0) = 1");
        Ports.row(hands, 2, 2);
        due("acts are as now", hands, "rub(0, 0) = 1", "firsts(0, 0) = 7", "ask(0, 0) = 0", "undo() = 0",
                "firsts(0, 0) = 5", "carry(0, 0, 2, 0) = 0", "firsts(0, 0) = 5");
        due("as told still", hands, "lies(0, 0) = 0", "lies(0, 2) = 2", "firsts(0, 0) = 5", "lies(0, 1) = 1");
    }

    private static void askedAbout() {
        SlateHands one = Ports.of("port days 12 law 0 odds 0;house high 0;slate at 0 word 1;");
        Ports.row(one);
        due("one HOUSE in all", one, "firsts(0, 0) = 1", "ask(0, 0) = NONE", "leaves(0, 0) = 1", "laws(0, 0) = 15");
        SlateHands eight = Ports.of("port days 12 law 0 odds 0;" + "house high 0;".repeat(8) + "slate at 0 word 1;");
        Ports.row(eight);
        due("eight, known on each DAY", eight, "firsts(0, 0) = 255", "ask(0, 0) = 0", "leaves(0, 0) = 1");
        Ports.row(eight, 5, 3);
        due("one of eight", eight, "firsts(0, 0) = 8", "ask(0, 0) = NONE", "leaves(0, 0) = 1");
        Ports.row(eight, 5, 3, 6, 4);
        due("none of eight", eight, "firsts(0, 0) = 0", "ask(0, 0) = NONE", "leaves(0, 0) = 0", "laws(0, 0) = 0");
    }

    private static void lawsOfARow() {
        // By LAW 0 it stays in 1, 6 heavy; in 2 it weighs 2 by LAW 1 and 2, with other WORDS left, and 4 by LAW 3.
        String text = " odds 0;house high 0;house high 0;house high 1;way 0 1;way 1 2;carrier at 0 strong 6;"
                + "slate at 0 word 1 word 3 word 1 word 1;carry 0 0 to 1 at 0;carry 0 0 to 2 at 1;";
        int[] due = {0, 6, 6, 8};
        int[] heavy = {6, 2, 2, 4};
        for (int law = 0; law < 4; law++) {
            SlateHands hands = Ports.of("port days 2 law " + law + text);
            Ports.row(hands, 2, 2);
            due("LAW " + law, hands, "weight(0, 2) = " + heavy[law], "laws(0, 0) = " + due[law]);
            Ports.row(hands, 2, 1);
            due("LAW " + law, hands, "laws(0, 0) = " + (law == 0 ? 1 : 0));
            Ports.row(hands, 0, 0, 1, 1);
            due("LAW " + law, hands, "laws(0, 0) = " + (law == 0 ? 1 : due[law]));
            Ports.row(hands);
            due("LAW " + law + ", a row of none", hands, "laws(0, 0) = " + (law == 0 ? 1 : due[law]));
            due("all as heavy without WORDS", hands, "rub(0, 0) = 1", "rub(0, 1) = 1", "rub(0, 2) = 1", "rub(0, 3) = 1",
                    "laws(0, 0) = 15");
        }
    }

    private static void rests() {
        String[] words = {"word 1", "word 1 word 1", "word 1 word 1 word 1"};
        int[] due = {8, 15, 1};
        for (int i = 0; i < words.length; i++) {
            SlateHands hands = Ports.of("port days 3 law 0" + STAR + "slate at 0 " + words[i] + ";" + BOTH);
            due(words[i], hands, "rests(0, 1, 2) = " + due[i], "rests(0, 2, 1) = " + due[i], "gets(0, 1, 2, 0, 0) = "
                    + (i + 1), "gets(0, 1, 2, 1, 0) = 2", "gets(0, 1, 2, 0, 1) = " + (i + 1),
                    "gets(0, 1, 2, 1, 1) = 2");
        }
        SlateHands rubbed = Ports.of("port days 3 law 1" + STAR + "slate at 0 word 1 word 1 word 1;" + BOTH);
        due("two WORDS in 2, if 1 does not shut", rubbed, "rests(0, 1, 2) = 5", "rests(0, 2, 1) = 3");
        SlateHands never = Ports.of("port days 3 law 0" + STAR + "slate at 0 word 1 word 1 word 1;");
        due("never carried", never, "rests(0, 1, 2) = 8", "rests(0, 0, 1) = 8", "gets(0, 0, 1, 1, 1) = 5",
                "gets(0, 1, 0, 1, 1) = 2", "gets(0, 1, 0, 0, 0) = 0");
    }

    /** 1 gets it if neither shuts, 2 if 1 does: whichever they choose, one had better not. */
    private static void noRest() {
        SlateHands hands = Ports.of("port days 3 law 0 odds 0;house high 0;house high 0;house high 0;house high 0;"
                + "way 0 1;way 0 2;way 0 3;"
                + "carrier at 0 strong 99;carrier at 0 strong 99;slate at 0 word 1 word 1 word 1 word 1;"
                + "slate at 0 word 1;"
                + "carry 0 1 to 2 at 0;carry 0 0 to 3 at 1;carry 1 0 to 1 at 1;carry 1 0 to 2 at 2;");
        due("no REST", hands, "rests(0, 1, 2) = 0", "rests(0, 2, 1) = 0", "gets(0, 1, 2, 0, 0) = 4",
                "gets(0, 2, 1, 0, 0) = 0", "gets(0, 1, 2, 1, 0) = 2", "gets(0, 2, 1, 0, 1) = 4",
                "gets(0, 1, 2, 0, 1) = 0", "gets(0, 2, 1, 1, 0) = 2", "gets(0, 1, 2, 1, 1) = 2",
                "gets(0, 2, 1, 1, 1) = 2");
    }

    /** A HOUSE that shuts is brought nothing, and what lies in it is carried away as well. */
    private static void gets() {
        SlateHands hands = Ports.of("port days 3 law 0" + STAR + "slate at 0 word 1 word 1 word 1;" + BOTH);
        due("where it lies at first, shut", hands, "gets(0, 0, 1, 1, 0) = 5", "gets(0, 0, 1, 0, 0) = 3",
                "gets(0, 1, 0, 0, 1) = 3", "gets(0, 2, 0, 0, 1) = 0", "gets(0, 2, 0, 0, 0) = 3",
                "gets(0, 2, 0, 1, 1) = 2", "gets(0, 2, 1, 0, 1) = 3");
        due("acts as now", hands, "rub(0, 0) = 1", "rub(0, 1) = 1", "gets(0, 1, 2, 0, 0) = 1",
                "gets(0, 1, 2, 1, 0) = 2", "rests(0, 1, 2) = 8", "anew() = 2", "rests(0, 1, 2) = 1");
    }

    /** What is asked of another PORT than told changes nothing of what is told, nor of what is asked next. */
    private static void asTold() {
        String text = "port days 3 law 2" + STAR.replace("odds 0", "odds 5") + "slate at 0 word 2 word 3 word 4;"
                + BOTH;
        String[] asked = {"gets(0, 1, 2, 1, 1)", "rests(0, 1, 2)", "by(0, 1)", "law(0)", "block(0)", "firsts(0, 0)",
                "ask(0, 0)", "leaves(0, 0)", "laws(0, 0)", "chance(0, 2, 0)", "mean(0, 0)", "drawn(0, 1)",
                "luck(0, 20, 0, 2)", "lies(0, 3)", "left(0, 3)", "dones()", "heard(0, 3)", "knows(2, 0, 3)", "idle(1)",
                "at(0, 3)"};
        long[] alone = new long[asked.length];
        for (int i = 0; i < asked.length; i++) {
            SlateHands hands = Ports.of(text);
            Ports.row(hands, 3, 2);
            alone[i] = Calls.asked(hands, asked[i]);
        }
        SlateHands hands = Ports.of(text);
        Ports.row(hands, 3, 2);
        for (int first = 0; first < asked.length; first++) {
            for (int next = 0; next < asked.length; next++) {
                CHECK.due(asked[first], Calls.asked(hands, asked[first]), alone[first]);
                CHECK.due(asked[next] + " behind " + asked[first], Calls.asked(hands, asked[next]), alone[next]);
            }
            hands = Ports.of(text);
            Ports.row(hands, 3, 2);
        }
        due("what each is due alone", hands, "gets(0, 1, 2, 1, 1) = 2", "by(0, 1) = 7", "block(0) = 0",
                "firsts(0, 0) = 5", "laws(0, 0) = 12", "left(0, 3) = 1", "dones() = 7", "heard(0, 3) = 7",
                "idle(1) = 0");
    }

    private static void due(String name, SlateHands hands, String... lines) {
        Calls.due(CHECK, name, hands, lines);
    }
}
