/** The edges of promises 52 to 55, 58, 60 and 61. */
public final class ActsEdgesTest {
    private static final Check CHECK = new Check();

    private ActsEdgesTest() {
    }

    public static void main(String[] args) {
        carryBounds();
        carryDays();
        rubBounds();
        twentyActs();
        undoneInTurn();
        rate();
        ratesAndActs();
        images();
        imagesOfNone();
        wholeRun();
        CHECK.finish();
    }

    private static void carryBounds() {
        SlateHands full = Ports.of(FullPort.of(12));
        due("promise 52, the last of all", full, "carry(4, 2, 7, 11) = 0", "why(12) = 2", "carry(4, 2, 5, 0) = 1",
                "why(13) = 0", "load(13) = 45", "why(11) = 4", "lies(2, 12) = 5", "dones() = 8192");
        due("promise 52, none such", full, "carry(5, 2, 7, 11) = -2", "carry(4, 3, 7, 11) = -2",
                "carry(4, 2, 8, 11) = -2", "carry(4, 2, 7, 12) = -2", "carry(-1, 2, 7, 11) = -2",
                "carry(4, -1, 7, 11) = -2", "carry(4, 2, -1, 11) = -2", "carry(4, 2, 7, -1) = -2",
                "carry(MAX, 0, 0, 0) = -2", "carry(0, MIN, 0, 0) = -2", "carry(0, 0, MAX, 0) = -2",
                "carry(0, 0, 0, MAX) = -2", "carry(0, 0, 0, MIN) = -2", "count(8) = 2", "why(14) = -2",
                "count(7) = 12");
    }

    /** On each DAY ahead of the last, and only there; on one DAY behind those told, acts in their order. */
    private static void carryDays() {
        for (int days = 1; days <= 12; days++) {
            SlateHands hands = Ports.of("port days " + days
                    + " law 0 odds 0;house high 0;house high 0;way 0 1;carrier at 0 strong 9;slate at 0 word 1;");
            due(days + " days", hands, "carry(0, 0, 1, " + days + ") = -2", "carry(0, 0, 1, 11) = " + (days == 12
                    ? 1 : -2), "anew() = " + (days == 12 ? 1 : 0), "carry(0, 0, 1, -1) = -2", "carry(0, 0, 1, "
                    + (days - 1) + ") = 1", "when(1, 0) = " + days, "count(8) = 1", "carry(0, 0, 1, 0) = " + (days == 1
                    ? 0 : 1), "why(0) = " + (days == 1 ? 0 : 4), "why(1) = " + (days == 1 ? 2 : 0),
                    "carry(0, 0, 0, 0) = 0", "why(2) = 2");
        }
        SlateHands order = Ports.of(FullPort.ONE_EACH);
        due("behind the CARRY told of its DAY", order, "carry(0, 0, 0, 0) = 0", "why(1) = 2", "why(0) = 0",
                "rub(0, 0) = 1", "done(0) = 1", "load(0) = 0");
        SlateHands rain = Ports.of(FullPort.ONE_EACH.replace("odds 0", "odds 10").replace("carry 0 0 to 1 at 0;", ""));
        due("done without RAIN", rain, "carry(0, 0, 1, 0) = 1", "knows(1, 0, 1) = 1", "chance(0, 1, 0) = 0");
    }

    private static void rubBounds() {
        SlateHands full = Ports.of(FullPort.of(12));
        due("promise 53, the last WORD", full, "rub(2, 5) = 1", "rub(2, 5) = 0", "rub(2, 6) = -2", "rub(2, -1) = -2",
                "rub(3, 0) = -2", "rub(-1, 0) = -2", "rub(1, 1) = -2", "rub(2, MAX) = -2", "rub(2, MIN) = -2",
                "rub(MAX, 0) = -2", "rub(MIN, 0) = -2", "count(8) = 2", "left(2, 0) = 31", "left(2, 12) = 31",
                "knows(6, 2, 0) = 31", "knows(7, 2, 12) = 31", "full(2, 12) = 0", "heard(2, 12) = 192",
                "weight(2, 0) = 15", "load(11) = 34", "rubbed(2) = 1", "left(1, 0) = 1", "left(0, 0) = 1");
        for (int i = 0; i < 6; i++) {
            SlateHands one = Ports.of(FullPort.of(12));
            due("WORD " + i, one, "rub(2, " + i + ") = 1", "left(2, 0) = " + (63 & ~(1 << i)), "knows(6, 2, 0) = "
                    + (63 & ~(1 << i)), "rub(2, " + i + ") = 0", "undo() = 1", "left(2, 0) = " + (63 & ~(1 << i)),
                    "undo() = 0", "left(2, 0) = 63");
        }
        SlateHands law = Ports.of(FullPort.of(12).replace("law 0", "law 1"));
        due("left so far, though rubbed out on a DAY", law, "left(2, 12) = 62", "rub(2, 0) = 1", "left(2, 12) = 60",
                "rubbed(2) = 2", "rub(2, 0) = 0", "count(8) = 2");
    }

    private static void twentyActs() {
        SlateHands carries = Ports.of(FullPort.of(12));
        for (int i = 0; i < 20; i++) {
            due("carry " + i, carries, "carry(4, 1, 5, " + i % 12 + ") = 0", "count(8) = " + (i + 1), "why(" + (12 + i)
                    + ") = " + (i % 12 == 11 ? 2 : 3), "why(" + (13 + i) + ") = -2");
        }
        due("20 carries, the 21st", carries, "carry(4, 1, 5, 0) = -5", "rub(0, 0) = -5", "count(8) = 20", "why(31) = 3",
                "why(32) = -2", "done(31) = 0", "done(32) = -2", "load(31) = NONE", "load(32) = -2", "dones() = 2048");
        due("-2 is asked ahead of -5", carries, "carry(5, 0, 0, 0) = -2", "carry(0, 3, 0, 0) = -2",
                "carry(0, 0, 8, 0) = -2", "carry(0, 0, 0, 12) = -2", "rub(3, 0) = -2", "rub(0, 1) = -2",
                "rub(2, 6) = -2");
        due("one taken back", carries, "undo() = 19", "why(31) = -2", "rub(0, 0) = 1", "rub(0, 0) = -5", "undo() = 19",
                "carry(4, 2, 5, 0) = 1", "why(31) = 0", "dones() = MIN", "done(31) = 1", "load(31) = 45",
                "carry(4, 2, 5, 0) = -5");
        due("all taken back", carries, "anew() = 20", "count(8) = 0", "dones() = 2048", "why(12) = -2", "rub(0, 0) = 1",
                "count(8) = 1");
        SlateHands rubs = Ports.of(FullPort.of(12));
        for (int i = 0; i < 20; i++) {
            due("rub " + i, rubs, "rub(2, " + i % 6 + ") = " + (i < 6 ? 1 : 0), "count(8) = " + (i + 1));
        }
        due("20 rubs, the 21st", rubs, "rub(2, 0) = -5", "carry(0, 0, 0, 0) = -5", "left(2, 0) = 0", "why(12) = -2");
        for (int i = 19; i >= 0; i--) {
            due("taken back", rubs, "undo() = " + i, "left(2, 0) = " + (i >= 6 ? 0 : 63 & -(1 << i)));
        }
        due("none left", rubs, "undo() = -5", "count(8) = 0", "anew() = 0");
    }

    private static void undoneInTurn() {
        SlateHands hands = Ports.of(FullPort.ONE_EACH);
        due("none", hands, "undo() = -5", "anew() = 0", "undo() = -5", "count(8) = 0", "done(0) = 1", "why(1) = -2");
        due("a CARRY told stays", hands, "rub(0, 0) = 1", "undo() = 0", "why(0) = 0", "carry(0, 0, 0, 0) = 0",
                "carry(0, 0, 1, 0) = 0", "rub(0, 0) = 1", "carry(0, 0, 1, 0) = 0", "why(3) = 2", "undo() = 3",
                "why(3) = -2", "why(2) = 2", "left(0, 0) = 0", "undo() = 2", "why(2) = 2", "left(0, 0) = 1",
                "undo() = 1", "why(2) = -2", "why(1) = 2", "undo() = 0", "why(1) = -2", "why(0) = 0", "undo() = -5");
        due("all at once", hands, "carry(0, 0, 0, 0) = 0", "rub(0, 0) = 1", "rub(0, 0) = 0", "anew() = 3", "anew() = 0",
                "undo() = -5", "why(1) = -2", "left(0, 0) = 1", "done(0) = 1");
        due("no PORT", new SlateHands(), "undo() = -2", "anew() = -2");
        due("another PORT has none", hands, "rub(0, 0) = 1", "port() = 0", "undo() = -2", "anew() = -2");
        Ports.told(hands, FullPort.ONE_EACH);
        due("another PORT has none", hands, "undo() = -5", "count(8) = 0", "left(0, 0) = 1");
    }

    private static void rate() {
        SlateHands full = Ports.of(FullPort.of(12));
        due("promise 58", full, "rate(4, 99) = 99", "rate(4, 0) = 99", "carrier(4, 1) = 0", "why(11) = 5",
                "rate(4, 64) = 0", "why(11) = 0", "rate(4, 63) = 64", "why(11) = 5", "rate(4, 100) = -2",
                "rate(4, -1) = -2", "rate(4, MAX) = -2", "rate(4, MIN) = -2", "rate(5, 0) = -2", "rate(-1, 0) = -2",
                "carrier(4, 1) = 63", "rate(0, 1) = 0", "why(10) = 2", "why(0) = 0", "count(8) = 0", "undo() = -5",
                "carrier(3, 1) = 0", "carrier(4, 0) = 6", "rate(4, 64) = 63", "brings(4, 2, 7) = 1",
                "needs(2, 7) = 64");
        due("no PORT", new SlateHands(), "rate(0, 0) = -2");
    }

    private static void ratesAndActs() {
        SlateHands hands = Ports.of(FullPort.ONE_EACH);
        due("there are acts", hands, "rub(0, 0) = 1", "rate(0, 5) = -5", "rate(0, 100) = -2", "rate(0, -1) = -2",
                "rate(1, 5) = -2", "rate(-1, 5) = -2", "carrier(0, 1) = 1", "undo() = 0", "rate(0, 5) = 1",
                "carry(0, 0, 0, 0) = 0", "rate(0, 6) = -5", "anew() = 1", "rate(0, 6) = 5", "rub(0, 0) = 1",
                "rub(0, 0) = 0", "undo() = 1", "rate(0, 7) = -5", "undo() = 0", "rate(0, 7) = 6", "carrier(0, 1) = 7");
        due("a new PORT is as told", hands, "end(0) = 0");
        Ports.told(hands, FullPort.ONE_EACH);
        due("a new PORT is as told", hands, "carrier(0, 1) = 1");
    }

    private static void images() {
        SlateHands hands = Ports.of(FullPort.of(12));
        due("none such", hands, "image(3) = -2", "image(-1) = -2", "image(MAX) = -2", "image(MIN) = -2", "back(3) = -2",
                "back(-1) = -2", "back(MAX) = -2", "back(MIN) = -2", "back(0) = -6", "back(1) = -6", "back(2) = -6");
        due("three IMAGES", hands, "image(0) = 0", "rate(4, 70) = 99", "rub(2, 5) = 1", "carry(4, 2, 5, 0) = 1",
                "image(1) = 0");
        Ports.told(hands, FullPort.ONE_EACH);
        due("three IMAGES", hands, "rub(0, 0) = 1", "image(2) = 0", "undo() = 0");
        for (int times = 0; times < 2; times++) {
            due("the first", hands, "back(0) = 0", "count(0) = 12", "count(9) = 41", "count(8) = 0",
                    "carrier(4, 1) = 99", "house(7) = 20", "word(2, 5) = 30", "word(0, 0) = 1", "doors(7) = 64",
                    "left(2, 12) = 63", "lies(2, 12) = 7", "why(11) = 0", "why(12) = -2", "undo() = -5",
                    "count(2) = 10", "count(7) = 12");
            due("the second", hands, "back(1) = 0", "count(8) = 2", "carrier(4, 1) = 70", "left(2, 0) = 31",
                    "lies(2, 12) = 5", "why(12) = 0", "rate(4, 1) = -5", "undo() = 1", "why(12) = -2", "undo() = 0",
                    "left(2, 0) = 63", "rate(4, 1) = 70");
            due("the third", hands, "back(2) = 0", "count(0) = 1", "count(9) = 7", "count(8) = 1", "left(0, 0) = 0",
                    "house(2) = -2", "carrier(1, 0) = -2", "word(1, 0) = -2", "undo() = 0", "left(0, 0) = 1",
                    "count(7) = 1", "why(1) = -2");
        }
        due("an IMAGE of twenty acts", hands, "back(0) = 0");
        for (int i = 0; i < 20; i++) {
            due("an IMAGE of twenty acts", hands, i < 14 ? "rub(2, " + i % 6 + ") = " + (i < 6
                    ? 1 : 0) : "carry(0, 0, 1, 3) = 0");
        }
        due("an IMAGE of twenty acts", hands, "image(2) = 0", "anew() = 20", "back(2) = 0", "count(8) = 20",
                "rub(0, 0) = -5", "why(17) = 5", "why(18) = -2", "left(2, 0) = 0", "undo() = 19", "why(17) = -2",
                "back(2) = 0", "anew() = 20", "left(2, 0) = 63");
        due("the TAPE, FAULTS, SLOTS aside", hands, "feed(0, 0, 0, 0, 0) = 20", "row(0, 0, 3) = 0", "image(1) = 0",
                "end(7) = 7", "row(1, 0, 3) = 0", "back(1) = 0", "count(10) = 7", "count(11) = 2", "port() = -4",
                "fault(0) = 1", "fault(1) = 0", "back(0) = 0", "fault(0) = 1", "fault(1) = 0", "count(10) = 0",
                "count(9) = 41");
    }

    /** Without a PORT an IMAGE keeps just that. */
    private static void imagesOfNone() {
        SlateHands hands = new SlateHands();
        due("no PORT", hands, "back(1) = -6", "image(1) = 0", "back(0) = -6", "back(2) = -6", "back(1) = 0",
                "count(9) = 0", "dones() = -2");
        Ports.told(hands, FullPort.ONE_EACH);
        due("back to no PORT", hands, "image(2) = 0", "rub(0, 0) = 1", "back(1) = 0", "dones() = -2", "count(8) = 0",
                "count(0) = 0", "house(0) = -2", "back(2) = 0", "dones() = 1", "count(8) = 0");
    }

    /** Almost 512 calls of one object, some 40 of them to tell its PORT: the last is answered as the first. */
    private static void wholeRun() {
        SlateHands hands = Ports.of(FullPort.of(8).replace("odds 10", "odds 5"));
        for (int i = 0; i < 46; i++) {
            due("round " + i, hands, "carry(4, 2, 5, 0) = 1", "lies(2, 8) = 5", "needs(2, 7) = 64", "mean(2, 0) = 11",
                    "undo() = 0", "lies(2, 8) = 7", "mean(2, 1) = 2", "chance(2, 7, 0) = 1", "share(2, 4, 0) = 7",
                    "image(" + i % 3 + ") = 0");
        }
    }

    private static void due(String name, SlateHands hands, String... lines) {
        Calls.due(CHECK, name, hands, lines);
    }
}
