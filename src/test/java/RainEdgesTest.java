/** The edges of promises 50, 51, 56 and 57, and of Terms VIII. */
public final class RainEdgesTest {
    private static final String WAY = "house high 0;house high 0;way 0 1;";
    private static final String ONE = WAY + "carrier at 0 strong 99;slate at 0 word 1;carry 0 0 to 1 at 0;";

    private static final int[] SEEDS = {0, 1, 2, 3, 7, 9, 12345, 65535, 65536, 99999, 123456789,
        1000000000, 1999999999, 2000000000};
    // The twelve draws of each seed, worked out with numbers of any length.
    private static final String[] DRAWS = {"088787512012", "883517092697", "879475652151", "775226332736",
        "468415405333", "259124765571", "887875120129", "803969385766", "799810065141", "614935155156",
        "654511716265", "604263594647", "336911905894", "431762775470"};

    private static final Check CHECK = new Check();

    private RainEdgesTest() {
    }

    public static void main(String[] args) {
        eightDays();
        nineDays();
        odds();
        oneWordLess();
        wholeNumbers();
        onDaysAheadAlone();
        firstThenLaw();
        heavierOrLighter();
        drawnDays();
        drawnWords();
        luck();
        CHECK.finish();
    }

    private static String port(int days, int law, int odds) {
        return "port days " + days + " law " + law + " odds " + odds + ";";
    }

    /** The last of all, by RAIN on each DAY. */
    private static void eightDays() {
        SlateHands full = Ports.of(FullPort.of(8));
        due("promise 50", full, "chance(2, 7, 0) = 1", "chance(2, 7, 1) = 1", "chance(2, 6, 0) = 1",
                "chance(2, 5, 0) = 0", "chance(2, 5, 1) = 1", "chance(1, 0, 0) = 1", "chance(1, 7, 0) = 0",
                "chance(0, 7, 1) = 1", "chance(3, 0, 0) = -2", "chance(-1, 0, 0) = -2", "chance(2, 8, 0) = -2",
                "chance(2, -1, 0) = -2", "chance(2, 7, 2) = -2", "chance(2, 7, -1) = -2");
        due("promise 51", full, "mean(2, 0) = 5", "mean(2, 1) = 1", "mean(1, 0) = 1", "mean(1, 1) = 1",
                "mean(3, 0) = -2", "mean(-1, 0) = -2", "mean(2, 2) = -2", "mean(2, -1) = -2", "mean(2, MAX) = -2");
        SlateHands less = Ports.of(FullPort.of(8).replace("odds 10", "odds 7"));
        due("odds of 7", less, "chance(2, 7, 0) = 1", "chance(2, 7, 1) = 1", "mean(2, 0) = 53", "mean(2, 1) = 10",
                "rub(2, 0) = 1", "rub(2, 1) = 1", "rub(2, 2) = 1", "rub(2, 3) = 1", "rub(2, 4) = 1",
                "chance(2, 7, 0) = 3", "chance(2, 7, 1) = 10", "mean(2, 0) = 3", "mean(2, 1) = 10", "rub(2, 5) = 1",
                "chance(2, 7, 0) = 0", "chance(2, 7, 1) = 1", "chance(2, 6, 0) = 0", "mean(2, 0) = 0",
                "mean(2, 1) = 1");
    }

    private static void nineDays() {
        for (int days = 1; days <= 12; days++) {
            SlateHands hands = Ports.of(port(days, 0, 3) + ONE);
            if (days <= 8) {
                due(days + " days", hands, "chance(0, 1, 0) = 7", "chance(0, 1, 1) = 10", "mean(0, 0) = 7",
                        "mean(0, 1) = 10");
            } else {
                due(days + " days", hands, "chance(0, 1, 0) = -3", "chance(0, 1, 1) = -3", "chance(0, 0, 0) = -3",
                        "mean(0, 0) = -3", "mean(0, 1) = -3", "chance(1, 0, 0) = -2", "chance(0, 2, 0) = -2",
                        "chance(0, 0, 2) = -2", "mean(1, 0) = -2", "mean(0, 2) = -2", "mean(0, -1) = -2");
            }
        }
    }

    private static void odds() {
        String[] chances = {"1/1", "9/10", "4/5", "7/10", "3/5", "1/2", "2/5", "3/10", "1/5", "1/10", "0/1"};
        for (int odds = 0; odds <= 10; odds++) {
            String[] parts = chances[odds].split("/");
            SlateHands hands = Ports.of(port(1, 0, odds) + ONE);
            due("odds " + odds, hands, "chance(0, 1, 0) = " + parts[0], "chance(0, 1, 1) = " + parts[1], "mean(0, 0) = "
                    + parts[0], "mean(0, 1) = " + parts[1], "chance(0, 0, 0) = 1", "chance(0, 0, 1) = 1");
        }
    }

    /** On each of eight DAYS it is carried: as many WORDS less as DAYS of RAIN, but no more than six. */
    private static void oneWordLess() {
        StringBuilder text = new StringBuilder(WAY + "carrier at 0 strong 99;slate at 0" + " word 1".repeat(6) + ";");
        for (int day = 0; day < 8; day++) {
            text.append("carry 0 0 to ").append(1 - day % 2).append(" at ").append(day).append(';');
        }
        due("always", Ports.of(port(8, 0, 10) + text), "mean(0, 0) = 0", "mean(0, 1) = 1", "chance(0, 1, 0) = 1",
                "chance(0, 1, 1) = 1");
        due("never", Ports.of(port(8, 0, 0) + text), "mean(0, 0) = 6", "mean(0, 1) = 1");
        // 6 - 4 and, of 256, once two and eight times one that is not there to be rubbed out.
        due("as likely as not", Ports.of(port(8, 0, 5) + text), "mean(0, 0) = 261", "mean(0, 1) = 128");
        due("by LAW 1, one less in 1", Ports.of(port(8, 1, 0) + text), "mean(0, 0) = 5", "mean(0, 1) = 1");
        due("by LAW 1, in RAIN", Ports.of(port(8, 1, 10) + text), "mean(0, 0) = 0", "mean(0, 1) = 1",
                "chance(0, 1, 0) = 1");
    }

    private static void wholeNumbers() {
        SlateHands hands = Ports.of(port(8, 0, 7) + WAY + "carrier at 0 strong 0;slate at 0" + " word 30".repeat(6)
                + ";slate at 1 word 1;carry 0 0 to 1 at 0;");
        due("not carried", hands, "mean(0, 0) = 6", "mean(0, 1) = 1", "mean(1, 0) = 1", "mean(1, 1) = 1",
                "chance(0, 0, 0) = 1", "chance(0, 0, 1) = 1", "chance(0, 1, 0) = 0", "chance(0, 1, 1) = 1",
                "chance(1, 1, 0) = 1", "chance(1, 0, 0) = 0");
    }

    /** RAIN on the last DAY, or on one on which it is not carried, makes no difference. */
    private static void onDaysAheadAlone() {
        String text = WAY
                + "carrier at 0 strong 9;slate at 0 word 1 word 1;carry 0 0 to 1 at 1;carry 0 0 to 0 at 3;"
                + "carry 0 0 to 0 at 2;";
        due("two of three DAYS", Ports.of(port(3, 0, 5) + text), "mean(0, 0) = 1", "mean(0, 1) = 1",
                "chance(0, 1, 0) = 1", "chance(0, 0, 0) = 1");
        due("one of two DAYS", Ports.of(port(2, 0, 5) + text), "mean(0, 0) = 3", "mean(0, 1) = 2");
        due("none of one DAY", Ports.of(port(1, 0, 5) + text), "mean(0, 0) = 2", "mean(0, 1) = 1",
                "chance(0, 1, 0) = 0");
        due("two CARRIES of one DAY, a RAIN for both", Ports.of(port(1, 0, 2) + WAY
                + "carrier at 0 strong 9;carrier at 0 strong 9;"
                + "slate at 0 word 1;slate at 0 word 1;carry 0 0 to 1 at 0;carry 1 1 to 1 at 0;"),
                "chance(0, 1, 0) = 4", "chance(1, 1, 0) = 4", "chance(1, 1, 1) = 5", "drawn(0, 1) = 0",
                "drawn(1, 1) = 2");
    }

    /** RAIN takes its WORD ahead of the HOUSE, which then takes another by LAW. */
    private static void firstThenLaw() {
        int[] left = {6, 4, 2, 2};
        for (int law = 0; law < 4; law++) {
            SlateHands hands = Ports.of(port(1, law, 10) + WAY
                    + "carrier at 0 strong 99;slate at 0 word 9 word 3 word 4;carry 0 0 to 1 at 0;");
            due("LAW " + law, hands, "mean(0, 0) = " + Integer.bitCount(left[law]), "chance(0, 1, 0) = 1",
                    "drawn(5, 1) = " + Integer.bitCount(left[law]));
        }
        SlateHands one = Ports.of(port(1, 3, 10) + ONE);
        due("the one WORD is gone in RAIN, so 1 KNOWS none", one, "chance(0, 1, 0) = 0", "chance(0, 1, 1) = 1",
                "mean(0, 0) = 0", "luck(0, 20, 0, 1) = 0", "knows(1, 0, 1) = 1", "left(0, 1) = 0");
        SlateHands home = Ports.of(port(2, 0, 10) + WAY
                + "carrier at 0 strong 99;slate at 0 word 1 word 1;carry 0 0 to 1 at 0;carry 0 0 to 0 at 1;");
        due("what is KNOWN stays", home, "chance(0, 0, 0) = 1", "chance(0, 1, 0) = 1", "mean(0, 0) = 0",
                "mean(0, 1) = 1");
    }

    /** In RAIN it gets light enough for what is too heavy else. */
    private static void heavierOrLighter() {
        SlateHands hands = Ports.of(port(2, 0, 4)
                + "house high 0;house high 0;house high 9;way 0 1;way 1 2;carrier at 0 strong 10;"
                + "slate at 0 word 9 word 1;carry 0 0 to 1 at 0;carry 0 0 to 2 at 1;");
        due("by RAIN on the first DAY and none on the second", hands, "why(1) = 5", "chance(0, 2, 0) = 6",
                "chance(0, 2, 1) = 25", "heard(0, 2) = 3", "mean(0, 0) = 36", "mean(0, 1) = 25");
    }

    private static void drawnDays() {
        for (int odds = 0; odds <= 10; odds++) {
            for (int days : new int[] {1, 8, 9, 12}) {
                SlateHands hands = Ports.of(port(days, 3, odds));
                for (int i = 0; i < SEEDS.length; i++) {
                    int rain = 0;
                    for (int day = 0; day < days; day++) {
                        rain |= DRAWS[i].charAt(day) - '0' < odds ? 1 << day : 0;
                    }
                    due(days + " days, odds " + odds, hands, "drawn(" + SEEDS[i] + ", 0) = " + rain, "drawn(" + SEEDS[i]
                            + ", 1) = 0");
                }
                due("none such", hands, "drawn(2000000001, 0) = -2", "drawn(-1, 0) = -2", "drawn(MAX, 0) = -2",
                        "drawn(MIN, 0) = -2", "drawn(0, 2) = -2", "drawn(0, -1) = -2", "drawn(2000000001, 1) = -2",
                        "drawn(-1, 1) = -2");
            }
        }
        due("no PORT", new SlateHands(), "drawn(0, 0) = -2", "drawn(0, 1) = -2", "drawn(2000000000, 0) = -2");
    }

    private static void drawnWords() {
        SlateHands full = Ports.of(FullPort.of(12));
        due("WORDS of all SLATES", full, "drawn(0, 1) = 7", "drawn(2000000000, 1) = 7", "drawn(0, 0) = 4095",
                "rub(0, 0) = 1", "drawn(0, 1) = 6", "rub(2, 0) = 1", "drawn(0, 1) = 5", "anew() = 2",
                "drawn(0, 1) = 7");
        // Draws of 0 8 8 7 and of 4 3 1 7.
        SlateHands hands = Ports.of(port(4, 0, 4) + WAY
                + "carrier at 0 strong 9;slate at 0 word 1 word 1 word 1 word 1;"
                + "carry 0 0 to 1 at 0;carry 0 0 to 0 at 1;carry 0 0 to 1 at 2;carry 0 0 to 0 at 3;");
        due("by RAIN of each DAY", hands, "drawn(0, 0) = 1", "drawn(0, 1) = 3", "drawn(2000000000, 0) = 6",
                "drawn(2000000000, 1) = 2", "left(0, 4) = 15");
        due("by the LAW told", Ports.of(FullPort.of(12).replace("law 0", "law 1")), "drawn(0, 1) = 6");
        due("no SLATES", Ports.of(port(12, 0, 10)), "drawn(0, 1) = 0");
        due("more DAYS than are reckoned with for chances", Ports.of(port(12, 0, 10) + ONE), "drawn(0, 1) = 0",
                "luck(0, 1, 0, 1) = 0", "chance(0, 1, 0) = -3");
    }

    private static void luck() {
        SlateHands full = Ports.of(FullPort.of(12));
        due("promise 57", full, "luck(0, 1, 2, 7) = 1", "luck(0, 20, 2, 7) = 20", "luck(2000000000, 20, 2, 7) = 20",
                "luck(0, 20, 2, 0) = 0", "luck(0, 0, 2, 7) = -2", "luck(0, 21, 2, 7) = -2", "luck(0, -1, 2, 7) = -2",
                "luck(0, MAX, 2, 7) = -2", "luck(0, MIN, 2, 7) = -2", "luck(-1, 1, 2, 7) = -2",
                "luck(2000000001, 1, 2, 7) = -2", "luck(MAX, 20, 2, 7) = -2", "luck(MIN, 1, 2, 7) = -2",
                "luck(0, 1, 3, 7) = -2", "luck(0, 1, -1, 7) = -2", "luck(0, 1, 2, 8) = -2", "luck(0, 1, 2, -1) = -2");
        due("no PORT", new SlateHands(), "luck(0, 1, 0, 0) = -2");
        // The first draws of seeds 0 .. 3 are 0 8 8 7, of 2,000,000,000 it is 4.
        for (int odds = 0; odds <= 10; odds++) {
            SlateHands hands = Ports.of(port(1, 0, odds) + ONE);
            int dry = (odds <= 0 ? 1 : 0) + (odds <= 8 ? 2 : 0) + (odds <= 7 ? 1 : 0);
            due("odds " + odds, hands, "luck(0, 4, 0, 1) = " + dry, "luck(0, 1, 0, 1) = " + (odds == 0 ? 1 : 0),
                    "luck(1, 1, 0, 1) = " + (odds <= 8 ? 1 : 0), "luck(2000000000, 1, 0, 1) = " + (odds <= 4 ? 1 : 0),
                    "luck(1, 3, 0, 1) = " + (dry - (odds <= 0 ? 1 : 0)), "luck(0, 4, 0, 0) = 4");
        }
    }

    private static void due(String name, SlateHands hands, String... lines) {
        Calls.due(CHECK, name, hands, lines);
    }
}
