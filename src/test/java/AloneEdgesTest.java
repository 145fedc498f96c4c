/** The edges of promises 31 to 39, and of Terms III to V. */
public final class AloneEdgesTest {
    private static final String ROW = "house high 0;".repeat(7) + "house high 20;"
            + "way 0 1;way 1 2;way 2 3;way 3 4;way 4 5;way 5 6;way 6 7;";

    private static final Check CHECK = new Check();

    private AloneEdgesTest() {
    }

    public static void main(String[] args) {
        fullPort();
        whereItLies();
        lastOfARow();
        lawAlone();
        whereItLayAtFirst();
        lighterAtEachHouse();
        lighterAtAllHouses();
        needsBounds();
        tellsDays();
        carts();
        four();
        porter();
        shares();
        carriesAside();
        crowded();
        askedOften();
        CHECK.finish();
    }

    private static void fullPort() {
        SlateHands full = Ports.of(FullPort.of(1));
        due("promise 31", full, "brings(4, 2, 7) = 1", "brings(4, 2, 0) = 3", "brings(4, 2, 6) = 0",
                "brings(3, 2, 7) = NONE", "brings(5, 2, 7) = -2", "brings(4, 3, 7) = -2", "brings(4, 2, 8) = -2",
                "brings(-1, 0, 0) = -2", "brings(0, -1, 0) = -2", "brings(0, 0, -1) = -2");
        due("promise 32", full, "saves(4, 2, 7) = 6", "saves(4, 2, 0) = 6", "saves(4, 2, 6) = 6",
                "saves(3, 2, 7) = NONE", "saves(5, 2, 7) = -2", "saves(4, 3, 7) = -2", "saves(4, 2, 8) = -2",
                "saves(-1, 0, 0) = -2", "saves(0, -1, 0) = -2", "saves(0, 0, -1) = -2");
        due("promise 33", full, "can(4, 2) = 255", "can(3, 2) = 64", "can(0, 0) = 1", "can(5, 2) = -2",
                "can(4, 3) = -2", "can(-1, 0) = -2", "can(0, -1) = -2");
        due("promise 34", full, "needs(2, 7) = 64", "needs(2, 0) = 45", "needs(2, 6) = 0", "needs(1, 7) = 20",
                "needs(3, 0) = -2", "needs(2, 8) = -2", "needs(-1, 0) = -2", "needs(0, -1) = -2");
        due("promise 35", full, "porter(2, 7) = 4", "porter(2, 6) = 0", "porter(0, 7) = 4", "porter(3, 0) = -2",
                "porter(2, 8) = -2", "porter(-1, 0) = -2", "porter(0, -1) = -2");
        due("promise 36", full, "tells(4, 2, 0) = 1", "tells(4, 2, 1) = 2", "tells(4, 2, 6) = 7", "tells(4, 2, 7) = 7",
                "tells(4, 2, 8) = -2", "tells(4, 2, -1) = -2", "tells(3, 2, 7) = 1", "tells(5, 2, 0) = -2",
                "tells(4, 3, 0) = -2", "tells(-1, 0, 0) = -2", "tells(0, -1, 0) = -2", "tells(0, 0, MAX) = -2",
                "tells(0, 0, MIN) = -2");
        due("promise 37", full, "cart(16, 2, 7) = 1", "cart(31, 2, 7) = 1", "cart(32, 2, 7) = -2", "cart(0, 2, 7) = -2",
                "cart(-1, 2, 7) = -2", "cart(MIN, 2, 7) = -2", "cart(MAX, 2, 7) = -2", "cart(15, 2, 7) = NONE",
                "cart(1, 2, 6) = 0", "cart(16, 3, 7) = -2", "cart(16, 2, 8) = -2", "cart(16, -1, 7) = -2",
                "cart(16, 2, -1) = -2");
        due("promise 38", full, "four(2, 7) = 16", "four(2, 6) = 1", "four(3, 7) = -2", "four(2, 8) = -2",
                "four(-1, 0) = -2", "four(0, -1) = -2");
        due("promise 39", full, "share(2, 4, 0) = 7", "share(2, 4, 1) = 1", "share(2, 0, 0) = 0", "share(2, 0, 1) = 1",
                "share(2, 3, 0) = 0", "share(2, 4, 2) = -2", "share(2, 4, -1) = -2", "share(3, 4, 0) = -2",
                "share(2, 5, 0) = -2", "share(-1, 0, 0) = -2", "share(0, -1, 0) = -2");
    }

    /** Where it lies at first it is brought on DAY 0, by whom it may be, and without WORDS too. */
    private static void whereItLies() {
        SlateHands hands = Ports.of("port days 1 law 1 odds 0;house high 0;house high 0;carrier at 0 strong 0;"
                + "slate at 1 word 30 word 30;");
        due("by one who is weak and far", hands, "brings(0, 0, 1) = 0", "brings(0, 0, 0) = NONE", "saves(0, 0, 1) = 2",
                "saves(0, 0, 0) = NONE", "can(0, 0) = 2", "needs(0, 1) = 0", "needs(0, 0) = NONE", "porter(0, 1) = 0",
                "porter(0, 0) = NONE", "tells(0, 0, 7) = 1", "cart(1, 0, 1) = 0", "cart(1, 0, 0) = NONE",
                "four(0, 1) = 1", "four(0, 0) = NONE", "share(0, 0, 0) = 0", "share(0, 0, 1) = 1");
        due("one WORD rubbed out", hands, "rub(0, 0) = 1", "saves(0, 0, 1) = 1", "tells(0, 0, 0) = 1");
        due("all rubbed out", hands, "rub(0, 1) = 1", "saves(0, 0, 1) = 0", "saves(0, 0, 0) = NONE",
                "tells(0, 0, 0) = 0", "tells(0, 0, 7) = 0", "brings(0, 0, 1) = 0", "can(0, 0) = 2");
        SlateHands light = Ports.of("port days 1 law 0 odds 0;house high 0;house high 0;house high 1;way 0 1;way 1 2;"
                + "carrier at 0 strong 0;slate at 0 word 1;");
        due("too heavy for none", light, "brings(0, 0, 1) = NONE", "needs(0, 1) = 1", "four(0, 1) = NONE");
        due("nothing to carry but up", light, "rub(0, 0) = 1", "brings(0, 0, 1) = 1", "needs(0, 1) = 0",
                "four(0, 1) = 1", "saves(0, 0, 1) = 0", "brings(0, 0, 2) = NONE", "needs(0, 2) = 1",
                "tells(0, 0, 7) = 0", "can(0, 0) = 3", "share(0, 0, 0) = 1", "cart(1, 0, 1) = 1");
    }

    /** Beyond the last DAY, as far as WAYS go; up to the last HOUSE one more strong than he must be, and one less. */
    private static void lastOfARow() {
        SlateHands hands = Ports.of("port days 1 law 0 odds 10;" + ROW
                + "carrier at 7 strong 25;carrier at 0 strong 24;slate at 0 word 5;");
        for (int h = 0; h < 8; h++) {
            due("in a row", hands, "brings(0, 0, " + h + ") = " + h, "saves(0, 0, " + h + ") = 1", "tells(0, 0, " + h
                    + ") = " + (h + 1), "needs(0, " + h + ") = " + (h == 0 ? 0 : h == 7 ? 25 : 5), "brings(1, 0, " + h
                    + ") = " + (h == 7 ? -1 : h), "porter(0, " + h + ") = 0", "cart(3, 0, " + h + ") = " + h, "four(0, "
                    + h + ") = 1");
        }
        due("in a row", hands, "can(0, 0) = 255", "can(1, 0) = 127", "tells(1, 0, 7) = 7", "saves(1, 0, 7) = NONE");
    }

    /** A WORD less at each HOUSE, the last gone in the sixth: so none hears of it in the seventh. */
    private static void lawAlone() {
        for (int law = 1; law < 4; law++) {
            SlateHands hands = Ports.of("port days 1 law " + law + " odds 10;" + ROW + "carrier at 0 strong 99;"
                    + "slate at 0" + " word 5".repeat(6) + ";");
            for (int h = 0; h < 8; h++) {
                due("LAW " + law, hands, "saves(0, 0, " + h + ") = " + (h == 0 ? 6 : 7 - h), "brings(0, 0, " + h
                        + ") = " + h, "tells(0, 0, " + h + ") = " + Math.min(7, h + 1), "needs(0, " + h + ") = "
                        + (h == 0 ? 0 : 30));
            }
            due("LAW " + law, hands, "can(0, 0) = 255", "rub(0, 5) = 1", "saves(0, 0, 7) = 0", "saves(0, 0, 6) = 0",
                    "saves(0, 0, 5) = 1", "tells(0, 0, 7) = 6", "can(0, 0) = 255");
        }
    }

    /** It is not rubbed out where it lay at first: to come back makes nothing lighter. */
    private static void whereItLayAtFirst() {
        for (int home = 0; home < 3; home++) {
            int[] others = {(home + 1) % 3, (home + 2) % 3};
            String[] high = {"0", "0", "0"};
            high[home] = "20";
            high[others[1]] = "9";
            SlateHands hands = Ports.of("port days 1 law 2 odds 0;house high " + String.join(";house high ", high) + ";"
                    + "way " + home + " " + others[0] + ";way " + others[0] + " " + others[1] + ";"
                    + "carrier at 0 strong 13;carrier at 0 strong 12;slate at " + home + " word 5 word 4;");
            due("from " + home, hands, "needs(0, " + others[1] + ") = 13", "brings(0, 0, " + others[1] + ") = 2",
                    "brings(1, 0, " + others[1] + ") = NONE", "saves(0, 0, " + others[1] + ") = 1", "four(0, "
                    + others[1] + ") = 1");
            SlateHands flat = Ports.of("port days 1 law 2 odds 0;house high 0;house high 0;house high 0;"
                    + "way " + home + " " + others[0] + ";carrier at 0 strong 99;slate at " + home + " word 5 word 4;");
            due("from " + home + " and back", flat, "tells(0, 0, 7) = 2", "saves(0, 0, " + home + ") = 2");
        }
    }

    /** Each HOUSE besides takes a WORD, by LAW 2 two and by the others three, till it is light enough for the last. */
    private static void lighterAtEachHouse() {
        String star = " odds 0;house high 0;house high 0;house high 0;house high 0;house high 20;"
                + "way 0 1;way 0 2;way 0 3;way 0 4;carrier at 0 strong 40;carrier at 0 strong 39;slate at 0 ";
        int[] needs = {60, 40, 40, 40};
        int[] days = {-1, 7, 5, 7};
        int[] saves = {-1, 2, 3, 2};
        int[] least = {41, 35, 26, 26};
        for (int law = 0; law < 4; law++) {
            SlateHands hands = Ports.of("port days 1 law " + law + star + "word 6 word 12 word 9 word 8 word 5;");
            due("LAW " + law, hands, "needs(0, 4) = " + needs[law], "brings(0, 0, 4) = " + days[law],
                    "saves(0, 0, 4) = " + saves[law], "brings(1, 0, 4) = NONE", "brings(1, 0, 1) = NONE",
                    "needs(0, 1) = 40");
            SlateHands most = Ports.of("port days 1 law " + law + star + "word 1 word 2 word 3 word 4 word 5 word 6;");
            due("LAW " + law, most, "needs(0, 4) = " + least[law], "needs(0, 1) = 21", "rate(0, " + least[law]
                    + ") = 40", "can(0, 0) = 31", "rate(0, " + (least[law] - 1) + ") = " + least[law],
                    "can(0, 0) = 15");
        }
    }

    /** To come up to the last HOUSE nothing may be left: six others come first, each from the middle and back. */
    private static void lighterAtAllHouses() {
        String leaves = "way 0 1;way 0 2;way 0 3;way 0 4;way 0 5;way 0 6;way 0 7;";
        for (int law = 1; law < 4; law++) {
            SlateHands hands = Ports.of("port days 1 law " + law + " odds 0;" + "house high 0;".repeat(7)
                    + "house high 20;" + leaves
                    + "carrier at 0 strong 20;carrier at 0 strong 22;carrier at 0 strong 19;slate at 0"
                    + " word 3".repeat(6) + ";");
            due("LAW " + law, hands, "brings(0, 0, 7) = 13", "saves(0, 0, 7) = 0", "needs(0, 7) = 20",
                    "can(0, 0) = 255", "brings(1, 0, 7) = 13", "brings(2, 0, 7) = NONE", "saves(2, 0, 7) = NONE",
                    "can(2, 0) = 127", "rate(1, 23) = 22", "brings(1, 0, 7) = 11", "saves(1, 0, 7) = 1",
                    "saves(1, 0, 6) = 6", "porter(0, 7) = 1", "tells(1, 0, 7) = 5");
        }
    }

    private static void needsBounds() {
        SlateHands most = Ports.of("port days 1 law 0 odds 0;house high 0;house high 20;house high 0;way 0 1;"
                + "carrier at 0 strong 99;carrier at 0 strong 99;carrier at 0 strong 2;slate at 0"
                + " word 30".repeat(6) + ";");
        due("the most", most, "needs(0, 1) = 200", "needs(0, 2) = NONE", "needs(0, 0) = 0", "cart(7, 0, 1) = 1",
                "cart(3, 0, 1) = NONE", "four(0, 1) = 7", "four(0, 2) = NONE", "rate(2, 1) = 2", "cart(7, 0, 1) = NONE",
                "four(0, 1) = NONE", "needs(0, 1) = 200");
        SlateHands least = Ports.of("port days 1 law 0 odds 0;house high 20;house high 0;way 0 1;slate at 0 word 1;");
        due("the least, without CARRIERS", least, "needs(0, 1) = 1", "four(0, 1) = NONE", "porter(0, 1) = NONE",
                "porter(0, 0) = NONE", "four(0, 0) = NONE", "cart(1, 0, 0) = -2", "needs(0, 0) = 0");
    }

    /** The DAYS end within a star, where each HOUSE but one costs two. */
    private static void tellsDays() {
        StringBuilder star = new StringBuilder("port days 1 law 0 odds 0;" + "house high 0;".repeat(8));
        for (int h = 0; h < 7; h++) {
            star.append("way 7 ").append(h).append(';');
        }
        SlateHands middle = Ports.of(star + "carrier at 0 strong 1;slate at 7 word 1;");
        SlateHands outside = Ports.of(star + "carrier at 0 strong 1;slate at 6 word 1;");
        int[] fromMiddle = {1, 2, 2, 3, 3, 4, 4, 5};
        int[] fromOutside = {1, 2, 3, 3, 4, 4, 5, 5};
        for (int n = 0; n < 8; n++) {
            due("from the middle", middle, "tells(0, 0, " + n + ") = " + fromMiddle[n]);
            due("from outside", outside, "tells(0, 0, " + n + ") = " + fromOutside[n]);
        }
        due("as many DAYS as it likes", middle, "can(0, 0) = 255", "brings(0, 0, 0) = 1");
        SlateHands alone = Ports.of("port days 12 law 0 odds 0;house high 0;carrier at 0 strong 1;slate at 0 word 1;");
        due("no WAYS", alone, "tells(0, 0, 0) = 1", "tells(0, 0, 7) = 1");
    }

    private static void carts() {
        SlateHands hands = Ports.of("port days 1 law 0 odds 0;house high 0;house high 0;way 0 1;"
                + "carrier at 0 strong 1;carrier at 1 strong 2;carrier at 0 strong 4;carrier at 1 strong 8;"
                + "carrier at 0 strong 16;slate at 0 word 17;");
        for (int set = 1; set < 32; set++) {
            due("as strong as all of them", hands, "cart(" + set + ", 0, 1) = " + (set >= 17 ? 1 : -1), "cart(" + set
                    + ", 0, 0) = 0");
        }
        due("none such", hands, "cart(0, 0, 1) = -2", "cart(32, 0, 1) = -2", "cart(33, 0, 1) = -2", "four(0, 1) = 17");
    }

    private static void four() {
        String text = "port days 1 law 0 odds 0;house high 0;house high 0;way 0 1;";
        due("all five", Ports.of(text + "carrier at 0 strong 6;".repeat(5) + "slate at 0 word 30;"), "four(0, 1) = 31");
        due("all five do not", Ports.of(text + "carrier at 0 strong 5;".repeat(5) + "slate at 0 word 26;"),
                "four(0, 1) = NONE");
        due("the last alone", Ports.of(text + "carrier at 0 strong 5;".repeat(4)
                + "carrier at 0 strong 20;slate at 0 word 20;"), "four(0, 1) = 16");
        due("fewer, though the set is more", Ports.of(text + "carrier at 0 strong 7;".repeat(3)
                + "carrier at 0 strong 10;carrier at 0 strong 11;slate at 0 word 21;"), "four(0, 1) = 24");
        due("the least of several", Ports.of(text + "carrier at 0 strong 7;".repeat(5) + "slate at 0 word 14;"),
                "four(0, 1) = 3");
        due("the least of several, behind weak ones", Ports.of(text + "carrier at 0 strong 1;".repeat(2)
                + "carrier at 0 strong 7;".repeat(3) + "slate at 0 word 14;"), "four(0, 1) = 12");
    }

    private static void porter() {
        String text = "port days 1 law 0 odds 0;house high 0;house high 9;house high 0;house high 0;way 0 1;way 1 3;"
                + "way 0 2;way 2 3;way 0 3;";
        due("the first of several", Ports.of(text
                + "carrier at 0 strong 0;carrier at 3 strong 5;carrier at 0 strong 50;slate at 0 word 5;"),
                "porter(0, 3) = 1", "porter(0, 1) = 2", "porter(0, 0) = 0");
        SlateHands fewest = Ports.of(text.replace("way 0 3;", "")
                + "carrier at 0 strong 5;carrier at 0 strong 14;slate at 0 word 5;");
        due("in fewest DAYS", fewest, "porter(0, 1) = 1", "porter(0, 3) = 0", "brings(0, 0, 1) = NONE",
                "brings(1, 0, 1) = 1");
        due("one too weak", fewest, "rate(1, 13) = 14", "porter(0, 1) = NONE", "porter(0, 2) = 0");
    }

    private static void shares() {
        String text = "port days 1 law 0 odds 0;house high 0;house high 0;way 0 1;";
        SlateHands five = Ports.of(text
                + "carrier at 0 strong 1;carrier at 0 strong 2;carrier at 0 strong 3;carrier at 0 strong 4;"
                + "carrier at 0 strong 5;slate at 0 word 8;");
        sharesDue("five, 8", five, "1/15", "1/15", "7/30", "7/30", "2/5");
        SlateHands four = Ports.of(text
                + "carrier at 0 strong 4;carrier at 0 strong 3;carrier at 0 strong 2;carrier at 0 strong 1;"
                + "slate at 0 word 6;");
        sharesDue("four, 6", four, "5/12", "1/4", "1/4", "1/12");
        SlateHands main = Ports.of(text + "carrier at 0 strong 9;" + "carrier at 0 strong 1;".repeat(4)
                + "slate at 0 word 10;");
        sharesDue("five, 10", main, "4/5", "1/20", "1/20", "1/20", "1/20");
        sharesDue("one alone", Ports.of(text + "carrier at 0 strong 9;slate at 0 word 9;"), "1/1");
        sharesDue("one alone, too weak", Ports.of(text + "carrier at 0 strong 9;slate at 0 word 10;"), "0/1");
        sharesDue("either of two", Ports.of(text + "carrier at 0 strong 9;carrier at 0 strong 9;slate at 0 word 9;"),
                "1/2", "1/2");
        sharesDue("all five", Ports.of(text + "carrier at 0 strong 6;".repeat(5) + "slate at 0 word 30;"), "1/5", "1/5",
                "1/5", "1/5", "1/5");
        SlateHands row = Ports.of("port days 1 law 0 odds 0;" + ROW
                + "carrier at 0 strong 5;carrier at 0 strong 25;slate at 0 word 5;");
        sharesDue("six HOUSES by either, one more by the stronger one", row, "3/1", "4/1");
        SlateHands light = Ports.of(text + "carrier at 0 strong 0;".repeat(5) + "slate at 0 word 8;");
        light.rub(0, 0);
        sharesDue("the empty set brings it to one HOUSE alone", light, "1/5", "1/5", "1/5", "1/5", "1/5");
    }

    private static void sharesDue(String name, SlateHands hands, String... shares) {
        for (int c = 0; c < shares.length; c++) {
            String[] parts = shares[c].split("/");
            due(name, hands, "share(0, " + c + ", 0) = " + parts[0], "share(0, " + c + ", 1) = " + parts[1]);
        }
        due(name, hands, "share(0, " + shares.length + ", 0) = -2");
    }

    /** CARRIES, where CARRIERS are told, RAIN and other SLATES make no difference; acts that rub do. */
    private static void carriesAside() {
        SlateHands hands = Ports.of("port days 2 law 3 odds 10;house high 0;house high 0;house high 0;way 0 1;way 1 2;"
                + "carrier at 2 strong 5;slate at 2 word 30;slate at 0 word 3 word 2;carry 0 0 to 1 at 0;");
        for (int i = 0; i < 3; i++) {
            due("aside", hands, "brings(0, 1, 2) = 2", "saves(0, 1, 2) = 1", "tells(0, 1, 2) = 3", "needs(1, 2) = 5",
                    "can(0, 1) = 7", "carry(0, 0, 1, 1) = 0");
        }
        due("rubbed", hands, "rub(0, 0) = 1", "needs(1, 2) = 5", "rub(1, 0) = 1", "needs(1, 2) = 2",
                "tells(0, 1, 2) = 2", "saves(0, 1, 2) = 0", "saves(0, 1, 1) = 1", "undo() = 4", "needs(1, 2) = 5",
                "undo() = 3", "anew() = 3", "rate(0, 4) = 5", "brings(0, 1, 1) = NONE", "needs(1, 2) = 5",
                "can(0, 1) = 1", "saves(0, 1, 0) = 2");
    }

    /** As many HOUSES and WAYS as can be, so that there is most to look at: held against the model. */
    private static void crowded() {
        String[] ways = {"0 1;1 2;2 3;3 4;4 5;5 6;6 7;7 0;0 4;1 5;2 6;3 7",
                "0 1;0 2;0 3;1 2;1 3;2 3;4 5;4 6;4 7;5 6;5 7;3 4", "0 4;0 5;0 6;0 7;1 4;1 5;1 6;1 7;2 4;2 5;2 6;3 7",
                "7 6;6 5;5 4;4 3;3 2;2 1;1 0;7 5;6 4;5 3;4 2;3 1", "6 0;6 1;6 2;6 3;6 4;6 5;6 7;0 1;1 2;2 3;3 4;4 5"};
        for (int i = 0; i < ways.length; i++) {
            for (int law = 0; law < 4; law++) {
                StringBuilder text = new StringBuilder("port days 1 law " + law + " odds 0;");
                for (int h = 0; h < 8; h++) {
                    text.append("house high ").append((h * 7 + i * 5) % 21).append(';');
                }
                text.append("way ").append(ways[i].replace(";", ";way ")).append(';');
                text.append("carrier at 0 strong 99;carrier at 0 strong 31;carrier at 0 strong 27;")
                        .append("carrier at 0 strong 23;carrier at 0 strong 19;slate at ").append(i * 2 % 8)
                        .append(" word 9 word 8 word 1 word 2 word 8 word 3;");
                likeTheModel(text.toString());
            }
        }
    }

    private static void likeTheModel(String text) {
        SlateHands hands = Ports.of(text);
        Model model = new Model();
        for (int[] five : Ports.fives(text)) {
            model.feed(five[0], five[1], five[2], five[3], five[4]);
        }
        CHECK.due("the model's port()", model.port(), hands.count(9));
        for (int h = 0; h < 8; h++) {
            CHECK.due(text + " needs " + h, hands.needs(0, h), model.needs(0, h));
            CHECK.due(text + " four " + h, hands.four(0, h), model.four(0, h));
            for (int c = 0; c < 5; c++) {
                CHECK.due(text + " brings " + c + " " + h, hands.brings(c, 0, h), model.brings(c, 0, h));
                CHECK.due(text + " saves " + c + " " + h, hands.saves(c, 0, h), model.saves(c, 0, h));
                CHECK.due(text + " tells " + c + " " + h, hands.tells(c, 0, h), model.tells(c, 0, h));
            }
        }
    }

    /** What is looked for anew with each change does not wear out within 512 calls. */
    private static void askedOften() {
        SlateHands hands = Ports.of(FullPort.of(1).replace("law 0", "law 2"));
        for (int i = 0; i < 90; i++) {
            due("time " + i, hands, "rub(2, 5) = 1", "needs(2, 7) = 19", "brings(4, 2, 0) = 3", "undo() = 0",
                    "needs(2, 0) = 45");
        }
    }

    private static void due(String name, SlateHands hands, String... lines) {
        Calls.due(CHECK, name, hands, lines);
    }
}
