/** The edges of promises 12 to 30 and 47, and of Terms II. */
public final class DaysEdgesTest {
    private static final Check CHECK = new Check();

    private DaysEdgesTest() {
    }

    public static void main(String[] args) {
        twelveDays();
        oneDay();
        dayBeyond();
        justAsStrong();
        reasonsInOrder();
        onTheirWay();
        whereItLayAtFirst();
        lawsToTheLastWord();
        heaviestFirst();
        noWordsLeft();
        knownTwice();
        gossipAndFamous();
        beside();
        CHECK.finish();
    }

    /** The last of all on the last DAY. */
    private static void twelveDays() {
        SlateHands full = Ports.of(FullPort.of(12));
        due("promise 12", full, "at(4, 0) = 6", "at(4, 11) = 6", "at(4, 12) = 7", "at(4, 13) = -2", "at(4, -1) = -2",
                "at(5, 12) = -2", "at(-1, 0) = -2", "at(3, 12) = 0");
        due("promise 13", full, "lies(2, 0) = 6", "lies(2, 11) = 6", "lies(2, 12) = 7", "lies(2, 13) = -2",
                "lies(3, 12) = -2", "lies(1, 12) = 0");
        due("promise 14", full, "left(2, 0) = 63", "left(2, 12) = 63", "left(2, 13) = -2", "left(3, 0) = -2",
                "left(1, 12) = 1");
        due("promise 15", full, "weight(2, 0) = 45", "weight(2, 12) = 45", "weight(2, 13) = -2", "weight(3, 0) = -2",
                "weight(1, 12) = 1");
        due("promise 16", full, "knows(7, 2, 11) = 0", "knows(7, 2, 12) = 63", "knows(7, 2, 13) = -2",
                "knows(8, 2, 12) = -2", "knows(7, 3, 12) = -2", "knows(6, 2, 0) = 63", "knows(7, 1, 12) = 0");
        due("promise 17", full, "heard(2, 0) = 0b01000000", "heard(2, 11) = 0b01000000", "heard(2, 12) = 0b11000000",
                "heard(2, 13) = -2", "heard(3, 0) = -2");
        due("promise 18", full, "full(2, 11) = 0b01000000", "full(2, 12) = 0b11000000", "full(2, 13) = -2",
                "full(3, 0) = -2");
        due("promise 19", full, "when(6, 2) = 0", "when(7, 2) = 12", "when(5, 2) = NONE", "when(8, 2) = -2",
                "when(7, 3) = -2");
        due("promise 20", full, "done(11) = 1", "done(10) = 0", "done(12) = -2", "done(-1) = -2");
        due("promise 21", full, "dones() = 2048");
        due("promise 22", full, "why(11) = 0", "why(10) = 5", "why(12) = -2", "why(-1) = -2");
        due("promise 23", full, "load(11) = 64", "load(10) = NONE", "load(12) = -2", "load(-1) = -2");
        due("promise 24", full, "idle(0) = 31", "idle(10) = 31", "idle(11) = 15", "idle(12) = -2", "idle(-1) = -2");
        due("promise 25", full, "moves(2) = 1", "moves(1) = 0", "moves(3) = -2", "moves(-1) = -2");
        due("promise 26", full, "trips(4) = 1", "trips(3) = 0", "trips(5) = -2", "trips(-1) = -2");
        due("promise 27", full, "toil(4) = 64", "toil(3) = 0", "toil(5) = -2", "toil(-1) = -2");
        due("promise 28", full, "rubbed(2) = 0", "rubbed(3) = -2", "rubbed(-1) = -2");
        due("promises 29, 30, 47", full, "gossip() = 6", "famous() = 2", "beside(2) = 7", "beside(1) = NONE",
                "beside(3) = -2", "beside(-1) = -2");
    }

    private static void oneDay() {
        SlateHands one = Ports.of(FullPort.ONE_EACH);
        due("one DAY", one, "at(0, 0) = 0", "at(0, 1) = 1", "at(0, 2) = -2", "lies(0, 0) = 0", "lies(0, 1) = 1",
                "lies(0, 2) = -2", "left(0, 1) = 1", "left(0, 2) = -2", "weight(0, 1) = 1", "weight(0, 2) = -2",
                "knows(1, 0, 0) = 0", "knows(1, 0, 1) = 1", "knows(1, 0, 2) = -2", "heard(0, 0) = 1", "heard(0, 1) = 3",
                "heard(0, 2) = -2", "full(0, 0) = 1", "full(0, 1) = 3", "full(0, 2) = -2", "when(0, 0) = 0",
                "when(1, 0) = 1", "done(0) = 1", "done(1) = -2", "dones() = 1", "why(0) = 0", "why(1) = -2",
                "load(0) = 1", "load(1) = -2", "idle(0) = 0", "idle(1) = -2", "moves(0) = 1", "trips(0) = 1",
                "toil(0) = 1", "rubbed(0) = 0", "gossip() = 0", "famous() = 0", "beside(0) = 1");
        due("too weak by one", one, "rate(0, 0) = 1", "done(0) = 0", "dones() = 0", "why(0) = 5", "load(0) = NONE",
                "idle(0) = 1", "moves(0) = 0", "trips(0) = 0", "toil(0) = 0", "when(1, 0) = NONE", "heard(0, 1) = 1",
                "beside(0) = NONE", "at(0, 1) = 0", "lies(0, 1) = 0");
    }

    /** A CARRY on the last DAY is none ahead of it, and one on the DAY ahead of it is. */
    private static void dayBeyond() {
        for (int days = 1; days <= 12; days++) {
            StringBuilder text = new StringBuilder("port days " + days
                    + " law 0 odds 0;house high 0;house high 0;way 0 1;carrier at 0 strong 1;slate at 0 word 1;");
            for (int at = days - 1; at <= Math.min(11, days); at++) {
                text.append("carry 0 0 to 1 at ").append(at).append(';');
            }
            SlateHands hands = Ports.of(text.toString());
            due(days + " days", hands, "why(0) = 0", "done(0) = 1", "lies(0, " + (days - 1) + ") = 0", "lies(0, " + days
                    + ") = 1", "when(1, 0) = " + days, "idle(" + (days - 1) + ") = 0", "idle(" + days + ") = -2");
            if (days < 12) {
                due(days + " days, a CARRY on the last", hands, "why(1) = 1", "done(1) = 0", "load(1) = NONE",
                        "dones() = 1");
            }
        }
    }

    private static void justAsStrong() {
        String text = "port days 3 law 0 odds 0;house high 0;house high 20;house high 20;way 0 1;way 1 2;"
                + "carrier at 0 strong 50;slate at 0 word 30;carry 0 0 to 1 at 0;carry 0 0 to 2 at 1;"
                + "carry 0 0 to 1 at 2;";
        SlateHands hands = Ports.of(text);
        due("up 20", hands, "why(0) = 0", "load(0) = 50", "load(1) = 30", "load(2) = 30", "toil(0) = 110");
        due("up 20, too weak by one", hands, "rate(0, 49) = 50", "why(0) = 5", "dones() = 0");
        SlateHands down = Ports.of(text.replace("carrier at 0 strong 50;slate at 0",
                "carrier at 2 strong 30;slate at 2") .replace("to 1 at 0;carry 0 0 to 2 at 1",
                "to 1 at 0;carry 0 0 to 0 at 1"));
        due("down is no climb", down, "why(0) = 0", "load(0) = 30", "why(1) = 0", "load(1) = 30", "why(2) = 5");
        SlateHands most = Ports.of("port days 1 law 0 odds 0;house high 0;house high 1;way 0 1;carrier at 0 strong 99;"
                + "slate at 0 word 30 word 30 word 30 word 8;carry 0 0 to 1 at 0;");
        due("99", most, "load(0) = 99", "why(0) = 0");
        SlateHands more = Ports.of("port days 1 law 0 odds 0;house high 0;house high 2;way 0 1;carrier at 0 strong 99;"
                + "slate at 0 word 30 word 30 word 30 word 8;carry 0 0 to 1 at 0;");
        due("100", more, "load(0) = NONE", "why(0) = 5");
    }

    /** Of several reasons the first that holds. */
    private static void reasonsInOrder() {
        SlateHands hands = Ports.of("port days 2 law 0 odds 0;house high 0;house high 0;house high 20;way 0 1;way 0 2;"
                + "carrier at 0 strong 5;carrier at 1 strong 5;slate at 0 word 5;slate at 1 word 5 word 1;"
                + "carry 0 0 to 1 at 2;"
                + "carry 1 0 to 2 at 11;"
                + "carry 0 1 to 2 at 0;"
                + "carry 1 1 to 2 at 0;"
                + "carry 1 1 to 0 at 0;"
                + "carry 0 0 to 2 at 0;"
                + "carry 0 0 to 0 at 0;"
                + "carry 0 0 to 1 at 0;"
                + "carry 0 1 to 0 at 0;"
                + "carry 1 0 to 2 at 0;"
                + "carry 0 0 to 1 at 0;"
                + "carry 0 0 to 0 at 1;");
        int[] why = {1, 1, 3, 4, 5, 5, 4, 0, 2, 2, 2, 0};
        for (int k = 0; k < why.length; k++) {
            due("reasons in order", hands, "why(" + k + ") = " + why[k], "done(" + k + ") = " + (why[k] == 0 ? 1 : 0),
                    "load(" + k + ") = " + (why[k] == 0 ? 5 : -1));
        }
        due("reasons in order", hands, "dones() = " + (1 << 7 | 1 << 11), "idle(0) = 2", "idle(1) = 2", "trips(0) = 2",
                "toil(0) = 10", "moves(0) = 2", "moves(1) = 0");
        due("an act on a DAY of CARRIES told comes behind them", hands, "carry(1, 0, 1, 1) = 0", "why(12) = 2",
                "carry(1, 1, 2, 1) = 0", "why(13) = 4", "carry(0, 1, 0, 1) = 0", "why(14) = 2");
    }

    private static void onTheirWay() {
        String text = "port days 2 law 0 odds 0;house high 0;house high 0;way 0 1;" + "carrier at 0 strong 9;".repeat(3)
                + "slate at 0 word 1;".repeat(3) + "carry 0 0 to 1 at 0;carry 1 1 to 1 at 0;";
        due("two of three are", Ports.of(text), "idle(0) = 4", "idle(1) = 7", "dones() = 3");
        SlateHands all = Ports.of(text
                + "carry 0 2 to 1 at 0;carry 2 0 to 1 at 0;carry 2 1 to 1 at 0;carry 1 2 to 1 at 0;"
                + "carry 2 2 to 1 at 0;carry 2 2 to 0 at 0;carry 0 1 to 0 at 1;carry 1 0 to 0 at 1;");
        int[] why = {0, 0, 2, 2, 2, 2, 0, 2, 0, 0};
        for (int k = 0; k < why.length; k++) {
            due("all three are", all, "why(" + k + ") = " + why[k]);
        }
        due("all three are, and two the DAY behind", all, "idle(0) = 0", "idle(1) = 4", "lies(0, 2) = 0",
                "at(0, 2) = 0", "at(2, 2) = 1");
        SlateHands hindered = Ports.of(text.replace("carry 0 0", "carry 0 0 to 0 at 0;carry 0 0"));
        due("one not done keeps none from his way", hindered, "why(0) = 4", "why(1) = 0", "why(2) = 0");
    }

    /** Where it lay at first it has been, whichever HOUSE it is: no WORD is rubbed out there. */
    private static void whereItLayAtFirst() {
        for (int home = 0; home < 8; home++) {
            int other = (home + 3) % 8;
            SlateHands hands = Ports.of("port days 5 law 1 odds 0;" + "house high 0;".repeat(8) + "way " + home + " "
                    + other + ";carrier at " + home + " strong 9;slate at " + home + " word 1 word 1 word 1;"
                    + "carry 0 0 to " + other + " at 0;carry 0 0 to " + home + " at 1;carry 0 0 to " + other + " at 2;"
                    + "carry 0 0 to " + home + " at 4;");
            due("from " + home, hands, "left(0, 0) = 7", "left(0, 1) = 6", "left(0, 2) = 6", "left(0, 3) = 6",
                    "left(0, 4) = 6", "left(0, 5) = 6", "rubbed(0) = 1", "knows(" + other + ", 0, 5) = 7", "knows("
                    + home + ", 0, 5) = 7", "needs(0, " + other + ") = 3", "moves(0) = 4");
        }
    }

    private static void lawsToTheLastWord() {
        int[][] left = {
            {63, 63, 63, 63, 63, 63, 63, 63},
            {63, 62, 60, 56, 48, 32, 0, 0},
            {63, 61, 53, 21, 20, 16, 0, 0},
            {63, 31, 15, 7, 3, 1, 0, 0},
        };
        for (int law = 0; law < 4; law++) {
            StringBuilder text = new StringBuilder("port days 7 law " + law + " odds 10;" + "house high 0;".repeat(8));
            for (int h = 0; h < 7; h++) {
                text.append("way ").append(h).append(' ').append(h + 1).append(';');
            }
            text.append("carrier at 0 strong 40;slate at 0 word 5 word 9 word 5 word 9 word 1 word 9;");
            for (int h = 0; h < 7; h++) {
                text.append("carry 0 0 to ").append(h + 1).append(" at ").append(h).append(';');
            }
            SlateHands hands = Ports.of(text.toString());
            String name = "LAW " + law;
            for (int day = 0; day <= 7; day++) {
                int known = left[law][Math.max(0, day - 1)];
                due(name, hands, "lies(0, " + day + ") = " + day, "left(0, " + day + ") = " + left[law][day],
                        "knows(" + day + ", 0, " + day + ") = " + known, "knows(" + day + ", 0, 7) = " + known,
                        "when(" + day + ", 0) = " + (known == 0 ? -1 : day));
            }
            due(name, hands, "rubbed(0) = " + (law == 0 ? 0 : 6), "heard(0, 7) = " + (law == 0 ? 255 : 127),
                    "full(0, 7) = " + (law == 0 ? 255 : 3), "weight(0, 7) = " + (law == 0 ? 38 : 0), "load(0) = 38",
                    "load(6) = " + (law == 0 ? 38 : 0), "dones() = 127", "gossip() = 0", "beside(0) = 1",
                    "trips(0) = 7");
        }
    }

    private static void heaviestFirst() {
        String[] words = {"30 30 29", "29 30 30", "30 1 30", "1 1 1 1 1 1", "1 2 3 4 5 6", "6 5 4 3 2 1", "1"};
        int[] left = {6, 5, 6, 62, 31, 62, 0};
        for (int i = 0; i < words.length; i++) {
            SlateHands hands = Ports.of("port days 1 law 2 odds 0;house high 0;house high 0;way 0 1;"
                    + "carrier at 0 strong 99;slate at 0 word " + words[i].replace(" ", " word ")
                    + ";carry 0 0 to 1 at 0;");
            due("LAW 2 of " + words[i], hands, "left(0, 1) = " + left[i]);
        }
        SlateHands second = Ports.of("port days 1 law 2 odds 0;house high 0;house high 0;way 0 1;"
                + "carrier at 0 strong 99;"
                + "slate at 0 word 9;slate at 0 word 1 word 2 word 7 word 2;carry 0 1 to 1 at 0;");
        due("LAW 2 of the second SLATE", second, "left(1, 1) = 11", "left(0, 1) = 1", "weight(1, 1) = 5");
        due("the heaviest of those left by acts", second, "rub(1, 2) = 1", "left(1, 0) = 11", "left(1, 1) = 9");
        due("the last one left by acts", second, "rub(1, 0) = 1", "rub(1, 3) = 1", "left(1, 0) = 2", "left(1, 1) = 0");
        due("none left by acts", second, "rub(1, 1) = 1", "left(1, 0) = 0", "left(1, 1) = 0", "why(0) = 0",
                "load(0) = 0");
    }

    /** A SLATE without WORDS is carried as well, and none hears of it. */
    private static void noWordsLeft() {
        for (int law = 0; law < 4; law++) {
            SlateHands hands = Ports.of("port days 2 law " + law
                    + " odds 0;house high 0;house high 3;house high 0;way 0 1;way 1 2;"
                    + "carrier at 0 strong 3;slate at 0 word 30;carry 0 0 to 1 at 0;carry 0 0 to 2 at 1;");
            due("too heavy yet", hands, "why(0) = 5", "full(0, 2) = 1", "heard(0, 2) = 1", "rubbed(0) = 0");
            due("all rubbed out", hands, "rub(0, 0) = 1", "why(0) = 0", "load(0) = 3", "load(1) = 0", "toil(0) = 3",
                    "left(0, 0) = 0", "left(0, 2) = 0", "weight(0, 0) = 0", "knows(0, 0, 0) = 0", "knows(0, 0, 2) = 0",
                    "knows(2, 0, 2) = 0", "heard(0, 0) = 0", "heard(0, 2) = 0", "full(0, 0) = 0", "full(0, 2) = 0",
                    "when(0, 0) = NONE", "when(2, 0) = NONE", "rubbed(0) = 1", "moves(0) = 2", "lies(0, 2) = 2",
                    "gossip() = 0", "famous() = 0", "beside(0) = NONE");
        }
    }

    /** What a HOUSE KNOWS it does not forget, nor does it rub out a second time. */
    private static void knownTwice() {
        SlateHands hands = Ports.of("port days 5 law 3 odds 0;house high 0;house high 0;house high 0;way 0 1;way 1 2;"
                + "carrier at 0 strong 9;slate at 0 word 1 word 1 word 1;"
                + "carry 0 0 to 1 at 0;carry 0 0 to 2 at 1;carry 0 0 to 1 at 2;carry 0 0 to 2 at 3;"
                + "carry 0 0 to 1 at 4;");
        due("as it comes again", hands, "knows(1, 0, 1) = 7", "knows(1, 0, 3) = 7", "knows(1, 0, 5) = 7",
                "knows(2, 0, 2) = 3", "knows(2, 0, 4) = 3", "left(0, 1) = 3", "left(0, 2) = 1", "left(0, 3) = 1",
                "left(0, 4) = 1", "left(0, 5) = 1", "full(0, 5) = 3", "when(1, 0) = 1", "when(2, 0) = 2");
    }

    private static void gossipAndFamous() {
        due("no HOUSES, no SLATES", Ports.of("port days 1 law 0 odds 0;"), "gossip() = NONE", "famous() = NONE");
        due("HOUSES, no SLATES", Ports.of("port days 1 law 0 odds 0;house high 0;house high 0;"), "gossip() = 0",
                "famous() = NONE");
        due("no PORT", new SlateHands(), "gossip() = -2", "famous() = -2");
        String text = "port days 2 law 0 odds 0;" + "house high 0;".repeat(8)
                + "way 6 7;way 5 7;carrier at 7 strong 99;";
        due("the last HOUSE, the last SLATE", Ports.of(text
                + "slate at 6 word 1;slate at 7 word 1;slate at 7 word 1 word 1 word 1;"
                + "carry 0 2 to 5 at 0;carry 0 2 to 7 at 1;"), "gossip() = 7", "famous() = 2");
        due("the first of several", Ports.of(text + "slate at 7 word 1 word 1;slate at 6 word 1;slate at 6 word 1;"),
                "gossip() = 6", "famous() = 0");
        due("more of one, fewer of the other", Ports.of(text
                + "slate at 7 word 1 word 1 word 1;slate at 6 word 1 word 1;slate at 5 word 1;"), "gossip() = 7",
                "famous() = 0");
        due("ahead of the one that knows fewer", Ports.of(text
                + "slate at 5 word 1 word 1 word 1;slate at 6 word 1 word 1;"
                + "slate at 7 word 1;carry 0 2 to 6 at 0;carry 0 2 to 7 at 1;"), "gossip() = 5", "famous() = 2");
    }

    private static void beside() {
        String star = "port days 6 law 3 odds 0;house high 0;house high 0;house high 0;house high 0;way 0 1;way 0 2;"
                + "way 0 3;carrier at 0 strong 9;slate at 0 word 1 word 1 word 1;";
        due("most first, then fewer", Ports.of(star + "carry 0 0 to 1 at 0;carry 0 0 to 0 at 1;carry 0 0 to 2 at 2;"),
                "knows(1, 0, 6) = 7", "knows(2, 0, 6) = 3", "beside(0) = 1");
        due("fewer first, then most", Ports.of(star + "carry 0 0 to 2 at 0;carry 0 0 to 0 at 1;carry 0 0 to 1 at 2;"),
                "knows(1, 0, 6) = 3", "knows(2, 0, 6) = 7", "beside(0) = 2");
        due("fewer, most, fewer", Ports.of(star + "carry 0 0 to 2 at 0;carry 0 0 to 0 at 1;carry 0 0 to 1 at 2;"
                + "carry 0 0 to 0 at 3;carry 0 0 to 3 at 4;"), "knows(3, 0, 6) = 1", "beside(0) = 2");
        due("the first of several", Ports.of(star.replace("law 3", "law 0") + "carry 0 0 to 3 at 0;carry 0 0 to 0 at 1;"
                + "carry 0 0 to 2 at 2;"), "beside(0) = 2");
        due("not where it lies at first", Ports.of(star), "beside(0) = NONE", "gossip() = 0");
        due("comes, but without WORDS", Ports.of(star.replace("law 3", "law 1").replace("word 1 word 1 word 1",
                "word 1") + "carry 0 0 to 1 at 0;carry 0 0 to 0 at 1;carry 0 0 to 2 at 2;"), "beside(0) = 1",
                "heard(0, 6) = 3", "lies(0, 6) = 2");
    }

    private static void due(String name, SlateHands hands, String... lines) {
        Calls.due(CHECK, name, hands, lines);
    }
}
