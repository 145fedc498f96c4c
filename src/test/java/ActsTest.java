/** Promises 52 to 55, 58, 60 and 61: what is done to a PORT, and IMAGES. */
public final class ActsTest {
    private static final String TEXT = "port days 3 law 1 odds 2;house high 0;house high 0;house high 8;way 0 1;way 1 2;"
            + "carrier at 0 strong 10;carrier at 1 strong 6;slate at 0 word 4 word 1 word 5;slate at 1 word 2;"
            + "carry 0 0 to 1 at 0;carry 0 0 to 0 at 2;";

    private static final Check CHECK = new Check();

    private ActsTest() {
    }

    public static void main(String[] args) {
        promise52();
        promise53();
        twentyActs();
        promise54();
        promise55();
        promise58();
        promises60and61();
        answersAreAnew();
        CHECK.finish();
    }

    private static void promise52() {
        SlateHands hands = Ports.of(TEXT);
        CHECK.due("carry behind that of its DAY", hands.carry(0, 0, 1, 0), 0);
        CHECK.due("why not", hands.why(2), 2);
        CHECK.due("carry done", hands.carry(1, 0, 0, 1), 1);
        CHECK.due("why(3)", hands.why(3), 0);
        CHECK.due("load(3)", hands.load(3), 6);
        CHECK.due("it is apart then", hands.why(1), 3);
        CHECK.due("carry to where there is no WAY", hands.carry(0, 0, 2, 2), 0);
        CHECK.due("acts", hands.count(8), 3);
        CHECK.due("CARRIES told", hands.count(7), 2);
        CHECK.due("carry, no such CARRIER", hands.carry(2, 0, 0, 0), -2);
        CHECK.due("carry, no such SLATE", hands.carry(0, 2, 0, 0), -2);
        CHECK.due("carry, no such HOUSE", hands.carry(0, 0, 3, 0), -2);
        CHECK.due("carry on the last DAY", hands.carry(0, 0, 0, 3), -2);
        CHECK.due("carry on no DAY", hands.carry(0, 0, 0, -1), -2);
        CHECK.due("no more acts", hands.count(8), 3);
        CHECK.due("carry, no PORT", new SlateHands().carry(0, 0, 0, 0), -2);
    }

    private static void promise53() {
        SlateHands hands = Ports.of(TEXT);
        CHECK.due("rub(0, 0)", hands.rub(0, 0), 1);
        CHECK.due("left(0, 0)", hands.left(0, 0), 6);
        CHECK.due("knows(0, 0, 0)", hands.knows(0, 0, 0), 6);
        CHECK.due("word(0, 0) as told", hands.word(0, 0), 4);
        CHECK.due("LAW 1 takes the first left", hands.left(0, 1), 4);
        CHECK.due("rub(0, 0) again", hands.rub(0, 0), 0);
        CHECK.due("rub(0, 1), rubbed on a DAY so far", hands.rub(0, 1), 1);
        CHECK.due("the other SLATE", hands.left(1, 0), 1);
        CHECK.due("acts", hands.count(8), 3);
        CHECK.due("rub, no such WORD", hands.rub(0, 3), -2);
        CHECK.due("rub, no such WORD", hands.rub(1, 1), -2);
        CHECK.due("rub, no such WORD", hands.rub(0, -1), -2);
        CHECK.due("rub, no such SLATE", hands.rub(2, 0), -2);
        CHECK.due("rub, no such SLATE", hands.rub(-1, 0), -2);
        CHECK.due("no more acts", hands.count(8), 3);
        CHECK.due("all rubbed out", hands.rub(0, 2), 1);
        CHECK.due("heard by none", hands.heard(0, 3), 0);
        CHECK.due("carried still", hands.moves(0), 2);
        CHECK.due("rub, no PORT", new SlateHands().rub(0, 0), -2);
    }

    private static void twentyActs() {
        SlateHands hands = Ports.of(TEXT + "carry 0 0 to 0 at 2;".repeat(10));
        for (int i = 0; i < 20; i++) {
            CHECK.due("act " + i, hands.carry(1, 1, 0, 2), i == 0 ? 1 : 0);
        }
        CHECK.due("a 21st carry", hands.carry(1, 1, 0, 2), -5);
        CHECK.due("a 21st rub", hands.rub(0, 0), -5);
        CHECK.due("a 21st carry of none, asked ahead", hands.carry(2, 0, 0, 0), -2);
        CHECK.due("a 21st rub of none, asked ahead", hands.rub(0, 3), -2);
        CHECK.due("32 CARRIES: the last", hands.why(31), 2);
        CHECK.due("32 CARRIES: none behind", hands.why(32), -2);
        CHECK.due("undo", hands.undo(), 19);
        CHECK.due("a 20th act again", hands.rub(1, 0), 1);
        CHECK.due("acts", hands.count(8), 20);
        SlateHands bits = Ports.of("port days 12 law 0 odds 0;house high 0;house high 0;way 0 1;"
                + "carrier at 0 strong 9;carrier at 0 strong 9;carrier at 0 strong 9;"
                + "slate at 0 word 1;slate at 0 word 1;slate at 0 word 1;" + "carry 0 0 to 0 at 0;".repeat(12));
        for (int i = 0; i < 20; i++) {
            bits.carry(i % 3, i % 3, 1 - i / 3 % 2, i / 3);
        }
        CHECK.due("dones, with the highest bit", bits.dones(), 0xfffff000);
    }

    private static void promise54() {
        SlateHands hands = Ports.of(TEXT);
        CHECK.due("undo of none", hands.undo(), -5);
        hands.carry(1, 0, 0, 1);
        hands.rub(0, 2);
        hands.rub(0, 2);
        hands.carry(1, 1, 0, 0);
        CHECK.due("undo a carry", hands.undo(), 3);
        CHECK.due("it is gone", hands.why(3), -2);
        CHECK.due("the other one stays", hands.why(2), 0);
        CHECK.due("undo one of two rubs", hands.undo(), 2);
        CHECK.due("rubbed out still", hands.left(0, 0), 3);
        CHECK.due("undo the other rub", hands.undo(), 1);
        CHECK.due("there again", hands.left(0, 0), 7);
        CHECK.due("undo the first act", hands.undo(), 0);
        CHECK.due("as told", hands.why(1), 0);
        CHECK.due("why(2)", hands.why(2), -2);
        CHECK.due("undo of none again", hands.undo(), -5);
        CHECK.due("undo, no PORT", new SlateHands().undo(), -2);
    }

    private static void promise55() {
        SlateHands hands = Ports.of(TEXT);
        CHECK.due("anew of none", hands.anew(), 0);
        hands.carry(1, 0, 0, 1);
        hands.rub(0, 2);
        CHECK.due("anew", hands.anew(), 2);
        CHECK.due("acts", hands.count(8), 0);
        CHECK.due("carries as told", hands.why(2), -2);
        CHECK.due("words as told", hands.left(0, 0), 7);
        CHECK.due("undo then", hands.undo(), -5);
        CHECK.due("anew, no PORT", new SlateHands().anew(), -2);
    }

    private static void promise58() {
        SlateHands hands = Ports.of(TEXT);
        CHECK.due("rate", hands.rate(0, 9), 10);
        CHECK.due("strong", hands.carrier(0, 1), 9);
        CHECK.due("he is too weak", hands.why(0), 5);
        CHECK.due("rate 99", hands.rate(0, 99), 9);
        CHECK.due("he is not", hands.why(0), 0);
        CHECK.due("rate 0", hands.rate(1, 0), 6);
        CHECK.due("rate 100", hands.rate(0, 100), -2);
        CHECK.due("rate -1", hands.rate(0, -1), -2);
        CHECK.due("rate, no such CARRIER", hands.rate(2, 1), -2);
        CHECK.due("rate, no such CARRIER", hands.rate(-1, 1), -2);
        hands.rub(0, 0);
        CHECK.due("rate with acts", hands.rate(0, 1), -5);
        CHECK.due("rate with acts, asked ahead", hands.rate(0, 100), -2);
        CHECK.due("strong still", hands.carrier(0, 1), 99);
        hands.undo();
        CHECK.due("rate with acts taken back", hands.rate(0, 1), 99);
        CHECK.due("no act", hands.count(8), 0);
        CHECK.due("rate, no PORT", new SlateHands().rate(0, 0), -2);
    }

    private static void promises60and61() {
        SlateHands hands = Ports.of(TEXT);
        for (int k : new int[] {-1, 3, 99}) {
            CHECK.due("image(" + k + ")", hands.image(k), -2);
            CHECK.due("back(" + k + ")", hands.back(k), -2);
        }
        CHECK.due("back(2), nothing yet", hands.back(2), -6);
        CHECK.due("image(0)", hands.image(0), 0);
        hands.rate(0, 50);
        hands.rub(0, 1);
        hands.carry(1, 1, 0, 0);
        CHECK.due("image(1)", hands.image(1), 0);
        hands.rub(0, 0);
        hands.feed(0, 0, 0, 0, 0);
        hands.row(0, 0, 1);
        CHECK.due("back(0)", hands.back(0), 0);
        CHECK.due("strong as it was", hands.carrier(0, 1), 10);
        CHECK.due("no acts", hands.count(8), 0);
        CHECK.due("left as it was", hands.left(0, 0), 7);
        CHECK.due("the TAPE stays", hands.count(10), 20);
        CHECK.due("SLOTS stay", hands.count(11), 1);
        Ports.told(hands, "port days 1 law 0 odds 0;");
        CHECK.due("back(1), another PORT", hands.back(1), 0);
        CHECK.due("its LINES", hands.count(9), 12);
        CHECK.due("its acts", hands.count(8), 2);
        CHECK.due("strong then", hands.carrier(0, 1), 50);
        CHECK.due("left then", hands.left(0, 0), 5);
        CHECK.due("why(2) then", hands.why(2), 0);
        CHECK.due("undo then", hands.undo(), 1);
        CHECK.due("back(1) once more", hands.back(1), 0);
        CHECK.due("as the IMAGE has it still", hands.count(8), 2);
        hands.anew();
        hands.carry(0, 0, 0, 1);
        hands.rub(1, 0);
        hands.back(1);
        CHECK.due("left, as by its own acts", hands.left(0, 0), 5);
        CHECK.due("of the other SLATE", hands.left(1, 0), 1);
        CHECK.due("undo the carry of it", hands.undo(), 1);
        CHECK.due("gone is the carry", hands.why(2), -2);
        CHECK.due("and not the rub", hands.left(0, 0), 5);
        hands.anew();
        hands.image(1);
        hands.rub(0, 1);
        hands.back(1);
        CHECK.due("an IMAGE in place of another", hands.count(8), 0);
        SlateHands none = new SlateHands();
        CHECK.due("image of no PORT", none.image(2), 0);
        Ports.told(none, TEXT);
        CHECK.due("back to no PORT", none.back(2), 0);
        CHECK.due("no PORT", none.anew(), -2);
        CHECK.due("no LINES", none.count(9), 0);
    }

    /** What was answered ahead of a change must not be answered behind it. */
    private static void answersAreAnew() {
        SlateHands hands = Ports.of(TEXT);
        long[] told = answers(hands);
        hands.image(0);
        hands.rub(0, 0);
        long[] rubbed = answers(hands);
        CHECK.due("rub: knows", rubbed[0], 6);
        CHECK.due("rub: brings", rubbed[1], 1);
        CHECK.due("rub: needs", rubbed[2], 6);
        CHECK.due("rub: chance", rubbed[3], 1);
        CHECK.due("rub: mean", rubbed[4], 16);
        hands.undo();
        same("undo", hands, told);
        hands.rub(0, 0);
        answers(hands);
        hands.anew();
        same("anew", hands, told);
        hands.rub(0, 0);
        answers(hands);
        hands.back(0);
        same("back", hands, told);
        hands.rate(0, 3);
        CHECK.due("rate: brings", hands.brings(0, 0, 1), SlateHands.NONE);
        CHECK.due("rate: chance", hands.chance(0, 1, 0), 0);
        CHECK.due("rate: knows", hands.knows(1, 0, 3), 0);
        Ports.told(hands, TEXT);
        same("port", hands, told);
    }

    private static long[] answers(SlateHands hands) {
        return new long[] {hands.knows(1, 0, 3), hands.brings(0, 0, 1), hands.needs(0, 1), hands.chance(0, 1, 0),
            hands.mean(0, 0)};
    }

    private static void same(String name, SlateHands hands, long[] due) {
        long[] got = answers(hands);
        for (int i = 0; i < due.length; i++) {
            CHECK.due(name + ": answer " + i + " as ahead of it", got[i], due[i]);
        }
    }
}
