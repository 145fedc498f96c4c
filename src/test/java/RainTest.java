/** Promises 50, 51, 56 and 57: RAIN by chance, and drawn (Terms VIII). */
public final class RainTest {
    private static final String HOUSES = "house high 0;house high 0;house high 0;house high 0;way 0 1;way 1 2;";
    private static final String CARRIED = "carrier at 0 strong 99;slate at 0 word 1 word 2;"
            + "carry 0 0 to 1 at 0;carry 0 0 to 2 at 2;";

    private static final Check CHECK = new Check();

    private RainTest() {
    }

    public static void main(String[] args) {
        promise50();
        promise51();
        rainAndLaw();
        manyDays();
        promise56();
        promise57();
        noRainElsewhere();
        CHECK.finish();
    }

    private static SlateHands of(int days, int law, int odds, String rest) {
        return Ports.of("port days " + days + " law " + law + " odds " + odds + ";" + HOUSES + rest);
    }

    private static void chanceDue(SlateHands hands, int slate, int house, int above, int below) {
        CHECK.due("chance(" + slate + ", " + house + ", 0)", hands.chance(slate, house, 0), above);
        CHECK.due("chance(" + slate + ", " + house + ", 1)", hands.chance(slate, house, 1), below);
    }

    private static void meanDue(SlateHands hands, int slate, long above, long below) {
        CHECK.due("mean(" + slate + ", 0)", hands.mean(slate, 0), above);
        CHECK.due("mean(" + slate + ", 1)", hands.mean(slate, 1), below);
    }

    private static void promise50() {
        SlateHands hands = of(3, 0, 3, CARRIED);
        chanceDue(hands, 0, 0, 1, 1);
        chanceDue(hands, 0, 1, 1, 1);
        // But if it rains on both DAYS.
        chanceDue(hands, 0, 2, 91, 100);
        chanceDue(hands, 0, 3, 0, 1);
        CHECK.due("chance(1, 0, 0)", hands.chance(1, 0, 0), -2);
        CHECK.due("chance(-1, 0, 0)", hands.chance(-1, 0, 0), -2);
        CHECK.due("chance(0, 4, 0)", hands.chance(0, 4, 0), -2);
        CHECK.due("chance(0, 0, 2)", hands.chance(0, 0, 2), -2);
        CHECK.due("chance(0, 0, -1)", hands.chance(0, 0, -1), -2);
        chanceDue(of(3, 0, 5, CARRIED), 0, 2, 3, 4);
        chanceDue(of(3, 0, 0, CARRIED), 0, 2, 1, 1);
        chanceDue(of(3, 0, 10, CARRIED), 0, 2, 0, 1);
        chanceDue(of(3, 0, 10, CARRIED), 0, 1, 1, 1);
        chanceDue(of(3, 0, 4, CARRIED.replace(" word 2", "")), 0, 1, 3, 5);
    }

    private static void promise51() {
        meanDue(of(3, 0, 3, CARRIED), 0, 7, 5);
        meanDue(of(3, 0, 0, CARRIED), 0, 2, 1);
        meanDue(of(3, 0, 10, CARRIED), 0, 0, 1);
        meanDue(of(3, 1, 10, CARRIED), 0, 0, 1);
        SlateHands hands = of(3, 0, 1, CARRIED + "slate at 3 word 5;");
        meanDue(hands, 0, 9, 5);
        meanDue(hands, 1, 1, 1);
        CHECK.due("mean(2, 0)", hands.mean(2, 0), -2);
        CHECK.due("mean(-1, 0)", hands.mean(-1, 0), -2);
        CHECK.due("mean(0, 2)", hands.mean(0, 2), -2);
        hands.rub(0, 0);
        meanDue(hands, 0, 81, 100);
        hands.undo();
        meanDue(hands, 0, 9, 5);
        hands.carry(0, 0, 1, 1);
        meanDue(hands, 0, 9, 5);
    }

    private static void rainAndLaw() {
        // RAIN takes the first, then LAW 2 the heavier one of those left, ahead of the next CARRY.
        SlateHands hands = of(2, 2, 5, "carrier at 0 strong 7;slate at 0 word 1 word 2 word 5;"
                + "carry 0 0 to 1 at 0;carry 0 0 to 2 at 1;");
        CHECK.due("too heavy in any weather", hands.why(0), 5);
        chanceDue(hands, 0, 1, 0, 1);
        meanDue(hands, 0, 3, 1);
        hands.rate(0, 8);
        chanceDue(hands, 0, 2, 3, 4);
        // 3 - 2 without RAIN, less 1 for each, but no WORD is left to rub the second time.
        meanDue(hands, 0, 1, 4);
    }

    private static void manyDays() {
        String one = "carrier at 0 strong 9;slate at 0 word 1;carry 0 0 to 1 at 7;";
        chanceDue(of(8, 0, 5, one), 0, 1, 1, 2);
        meanDue(of(8, 0, 1, one), 0, 9, 10);
        SlateHands nine = of(9, 0, 5, one);
        CHECK.due("9 DAYS: chance", nine.chance(0, 0, 0), -3);
        CHECK.due("9 DAYS: mean", nine.mean(0, 0), -3);
        CHECK.due("9 DAYS: chance of none, asked ahead", nine.chance(0, 4, 0), -2);
        CHECK.due("9 DAYS: mean of none, asked ahead", nine.mean(1, 0), -2);
        CHECK.due("9 DAYS: what 2, asked ahead", nine.mean(0, 2), -2);
        StringBuilder busy = new StringBuilder("carrier at 0 strong 99;slate at 0" + " word 1".repeat(6) + ";");
        for (int day = 0; day < 8; day++) {
            busy.append("carry 0 0 to ").append(day % 2 == 0 ? 1 : 0).append(" at ").append(day).append(';');
        }
        SlateHands eight = of(8, 0, 1, busy.toString());
        // 6 - 8 / 10, and what is not there to be rubbed at the seventh RAIN and the eighth one.
        meanDue(eight, 0, 520000074 / 2, 100000000 / 2);
        chanceDue(eight, 0, 1, 1, 1);
    }

    private static void promise56() {
        // From 0 the draws are 0 8 8 7 8 7 5 1 2 0 1 2, from 2,000,000,000: 4 3 1 7 6 2 7 7 5 4 7 0.
        SlateHands hands = of(12, 0, 7, CARRIED + "slate at 3 word 1 word 1 word 1;");
        CHECK.due("drawn(0, 0)", hands.drawn(0, 0), 0b111111000001);
        CHECK.due("drawn(0, 1)", hands.drawn(0, 1), 4);
        CHECK.due("drawn(2000000000, 0)", hands.drawn(2000000000, 0), 0b101100110111);
        CHECK.due("drawn(2000000000, 1)", hands.drawn(2000000000, 1), 3);
        CHECK.due("drawn(2000000001, 0)", hands.drawn(2000000001, 0), -2);
        CHECK.due("drawn(-1, 0)", hands.drawn(-1, 0), -2);
        CHECK.due("drawn(0, 2)", hands.drawn(0, 2), -2);
        CHECK.due("drawn(0, -1)", hands.drawn(0, -1), -2);
        CHECK.due("drawn(0, 0), no PORT", new SlateHands().drawn(0, 0), -2);
        CHECK.due("ahead of the last DAY alone", of(3, 0, 10, CARRIED).drawn(0, 0), 7);
        CHECK.due("never", of(12, 0, 0, CARRIED).drawn(0, 0), 0);
        CHECK.due("below odds of 1", of(12, 0, 1, CARRIED).drawn(0, 0), 0b001000000001);
    }

    private static void promise57() {
        // From 0 .. 5 the draws are 0 8 8 7 7 5 on DAY 0, and 8 3 9 5 1 6 on DAY 2.
        SlateHands hands = of(3, 0, 9, CARRIED);
        CHECK.due("luck(0, 1, 0, 2)", hands.luck(0, 1, 0, 2), 0);
        CHECK.due("luck(0, 6, 0, 2)", hands.luck(0, 6, 0, 2), 1);
        CHECK.due("luck(2, 1, 0, 2)", hands.luck(2, 1, 0, 2), 1);
        CHECK.due("luck(3, 3, 0, 2)", hands.luck(3, 3, 0, 2), 0);
        CHECK.due("luck(0, 6, 0, 1)", hands.luck(0, 6, 0, 1), 6);
        CHECK.due("luck(0, 20, 0, 0)", hands.luck(0, 20, 0, 0), 20);
        CHECK.due("luck(0, 20, 0, 3)", hands.luck(0, 20, 0, 3), 0);
        CHECK.due("luck(2000000000, 20, 0, 0)", hands.luck(2000000000, 20, 0, 0), 20);
        CHECK.due("luck(0, 0, 0, 0)", hands.luck(0, 0, 0, 0), -2);
        CHECK.due("luck(0, 21, 0, 0)", hands.luck(0, 21, 0, 0), -2);
        CHECK.due("luck(-1, 1, 0, 0)", hands.luck(-1, 1, 0, 0), -2);
        CHECK.due("luck(2000000001, 1, 0, 0)", hands.luck(2000000001, 1, 0, 0), -2);
        CHECK.due("luck(0, 1, 1, 0)", hands.luck(0, 1, 1, 0), -2);
        CHECK.due("luck(0, 1, 0, 4)", hands.luck(0, 1, 0, 4), -2);
        // From 2,000,000,000 and the two seeds behind it the draws are 4 2 2.
        SlateHands last = of(1, 0, 4, CARRIED.replace(" word 2", ""));
        CHECK.due("luck(2000000000, 3, 0, 1)", last.luck(2000000000, 3, 0, 1), 1);
    }

    private static void noRainElsewhere() {
        SlateHands hands = of(3, 0, 10, CARRIED);
        hands.chance(0, 0, 0);
        hands.drawn(0, 1);
        CHECK.due("left without RAIN", hands.left(0, 3), 3);
        CHECK.due("knows without RAIN", hands.knows(2, 0, 3), 3);
        CHECK.due("saves without RAIN", hands.saves(0, 0, 2), 2);
        CHECK.due("by without RAIN", hands.by(0, 0), 7);
        CHECK.due("gets without RAIN", hands.gets(0, 2, 3, 0, 0), 2);
    }
}
