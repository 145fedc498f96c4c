/** The edges of promises 62 to 64; a number is seen by firsts(), if it is a DAY or a HOUSE. */
public final class RowsEdgesTest {
    // A slate of this PORT lies where it lay at first: firsts() of a row (0, h) is 1 << h.
    private static final String TEXT = "port days 12 law 0 odds 0;" + "house high 0;".repeat(8) + "slate at 0 word 1;";

    private static final Check CHECK = new Check();

    private RowsEdgesTest() {
    }

    public static void main(String[] args) {
        rowBounds();
        rowReplaced();
        writeBounds();
        widths();
        pasteBounds();
        pasteOrder();
        pasteOfNone();
        pasteOverItself();
        pasteWidths();
        CHECK.finish();
    }

    private static void rowBounds() {
        SlateHands hands = new SlateHands();
        due("nothing", hands, "count(11) = 0", "write(0, 0, 0) = -6", "write(3, 0, 0) = -6",
                "paste(0, 0, 3, 0, 0) = -6");
        due("SLOTS", hands, "row(-1, 0, 1) = -2", "row(4, 0, 1) = -2", "row(MAX, 0, 1) = -2", "row(MIN, 0, 1) = -2",
                "row(0, 0, 1) = 0", "row(3, 0, 1) = 0", "count(11) = 2");
        due("WIDTHS", hands, "row(1, -1, 1) = -2", "row(1, 4, 1) = -2", "row(1, MAX, 1) = -2", "row(1, MIN, 1) = -2",
                "count(11) = 2", "row(1, 3, 1) = 0", "row(2, 0, 1) = 0", "count(11) = 4");
        due("how many", hands, "row(1, 0, 60) = 0", "write(1, 59, 1) = 0", "write(1, 60, 1) = -7", "row(1, 0, 61) = -2",
                "row(1, 0, MAX) = -2", "write(1, 59, 1) = 0", "row(1, 0, -1) = -3", "row(1, 0, MIN) = -3",
                "write(1, 59, 1) = 0", "row(1, 0, 0) = 0", "write(1, 0, 1) = -7", "count(11) = 4", "row(1, 0, 1) = 0",
                "write(1, 0, 1) = 0", "write(1, 1, 1) = -7");
        due("-2 is asked ahead of -3", hands, "row(4, 0, -1) = -2", "row(-1, 0, -1) = -2", "row(0, 4, -1) = -2",
                "row(0, -1, -1) = -2", "row(4, 4, 61) = -2", "row(0, 0, -1) = -3");
        SlateHands fresh = new SlateHands();
        due("a refused row is none", fresh, "row(0, 0, -1) = -3", "row(1, 0, 61) = -2", "row(2, 4, 1) = -2",
                "count(11) = 0", "write(0, 0, 0) = -6", "write(1, 0, 0) = -6", "write(2, 0, 0) = -6");
    }

    private static void rowReplaced() {
        SlateHands hands = Ports.of(TEXT);
        due("as it was told", hands, "row(0, 1, 4) = 0", "firsts(0, 0) = 1", "write(0, 1, 5) = 0", "write(0, 3, 5) = 0",
                "firsts(0, 0) = 32", "row(0, 4, 4) = -2", "row(0, 1, 61) = -2", "row(0, 1, -1) = -3",
                "firsts(0, 0) = 32");
        due("in place of another one, all 0", hands, "row(0, 1, 4) = 0", "firsts(0, 0) = 1", "write(0, 3, 5) = 0",
                "firsts(0, 0) = 0", "row(0, 1, 2) = 0", "firsts(0, 0) = 1", "row(0, 1, 4) = 0", "firsts(0, 0) = 1",
                "row(0, 0, 60) = 0", "firsts(0, 0) = 1");
        due("of the others nothing", hands, "row(1, 3, 2) = 0", "write(1, 1, 7) = 0", "row(2, 3, 2) = 0",
                "row(0, 3, 60) = 0", "write(0, 59, 3) = 0", "firsts(1, 0) = 128", "firsts(2, 0) = 1",
                "firsts(0, 0) = 0", "count(11) = 3");
        due("a PORT changes nothing", hands, "port() = 0", "count(11) = 3", "firsts(1, 0) = -2", "write(1, 0, 12) = 0");
        Ports.told(hands, TEXT);
        due("a PORT changes nothing", hands, "firsts(1, 0) = 128", "write(1, 0, 13) = 0", "firsts(1, 0) = -2");
    }

    private static void writeBounds() {
        SlateHands hands = Ports.of(TEXT);
        due("the last of a full row", hands, "row(3, 0, 60) = 0", "write(3, 0, 1) = 0", "write(3, 59, 1) = 0",
                "firsts(3, 0) = 0", "write(3, 59, 0) = 0", "firsts(3, 0) = 1", "write(3, 60, 1) = -7",
                "write(3, -1, 1) = -7", "write(3, MAX, 1) = -7", "write(3, MIN, 1) = -7", "firsts(3, 0) = 1");
        due("-2, then -6, then -7", hands, "write(4, 60, 1) = -2", "write(-1, -1, 1) = -2", "write(MAX, 0, 1) = -2",
                "write(MIN, 0, 1) = -2", "write(2, 60, 1) = -6", "write(2, -1, 1) = -6", "write(2, 0, 1) = -6");
        due("none of the next SLOT", hands, "row(0, 0, 2) = 0", "row(1, 0, 2) = 0", "write(0, 60, 1) = -7",
                "write(0, 61, 1) = -7", "write(1, -59, 1) = -7", "write(0, 2, 1) = -7", "firsts(0, 0) = 1",
                "firsts(1, 0) = 1");
    }

    /** What is beyond its WIDTH is cut off: it comes round to 0 and, from below, to the highest. */
    private static void widths() {
        long[] rounds = {1L << 8, 1L << 16, 1L << 32};
        for (int width = 0; width < 3; width++) {
            SlateHands hands = Ports.of(TEXT);
            long round = rounds[width];
            due("WIDTH " + width, hands, "row(0, " + width + ", 2) = 0");
            for (long h = 0; h < 8; h++) {
                for (long v : new long[] {h, round + h, h - round, 3 * round + h, h - 7 * round, Long.MIN_VALUE + h,
                    Long.MAX_VALUE - round + 1 + h}) {
                    due("WIDTH " + width, hands, "write(0, 1, " + v + ") = 0", "firsts(0, 0) = " + (1 << h));
                }
            }
            for (long v : new long[] {8, -1, round - 1, round + 8, round / 2, -round / 2, round / 2 - 1, -round - 1,
                    Long.MAX_VALUE}) {
                due("WIDTH " + width, hands, "write(0, 1, " + v + ") = 0", "firsts(0, 0) = -2");
            }
            due("WIDTH " + width + ", a DAY", hands, "write(0, 1, 2) = 0", "write(0, 0, " + (round + 12) + ") = 0",
                    "firsts(0, 0) = 4", "write(0, 0, " + (round + 13) + ") = 0", "firsts(0, 0) = -2");
        }
        SlateHands hands = Ports.of(TEXT);
        due("8 bytes are not cut", hands, "row(0, 3, 2) = 0", "write(0, 1, 7) = 0", "firsts(0, 0) = 128");
        for (long round : rounds) {
            due("8 bytes are not cut", hands, "write(0, 1, " + round + ") = 0", "firsts(0, 0) = -2", "write(0, 1, "
                    + -round + ") = 0", "firsts(0, 0) = -2");
        }
        due("8 bytes are not cut", hands, "write(0, 1, " + Long.MIN_VALUE + ") = 0", "firsts(0, 0) = -2", "write(0, 1, "
                + Long.MAX_VALUE + ") = 0", "firsts(0, 0) = -2", "write(0, 1, 3) = 0", "firsts(0, 0) = 8");
    }

    private static SlateHands threeRows() {
        SlateHands hands = Ports.of(TEXT);
        due("rows", hands, "row(0, 2, 6) = 0", "row(1, 2, 4) = 0", "row(2, 1, 6) = 0");
        for (int i = 0; i < 6; i++) {
            due("rows", hands, "write(0, " + i + ", " + (i + 1) + ") = 0");
        }
        return hands;
    }

    /** The numbers of a row, each brought behind a 0 in SLOT 3 by paste() itself. */
    private static void numbersDue(String name, SlateHands hands, int slot, int width, int... numbers) {
        due(name, hands, "row(3, " + width + ", 2) = 0");
        for (int i = 0; i < numbers.length; i++) {
            due(name + ", number " + i, hands, "paste(" + slot + ", " + i + ", 3, 1, 1) = 0", "firsts(3, 0) = "
                    + (1 << numbers[i]));
        }
    }

    private static void pasteBounds() {
        String[] refused = {
            "paste(0, 6, 1, 0, 1) = -7", "paste(0, 5, 1, 0, 2) = -7", "paste(0, 0, 1, 4, 1) = -7",
                    "paste(0, 0, 1, 3, 2) = -7", "paste(0, 0, 1, 0, 5) = -7", "paste(1, 0, 0, 0, 5) = -7",
                    "paste(0, 0, 0, 0, 7) = -7", "paste(0, -1, 1, 0, 1) = -7", "paste(0, 0, 1, -1, 1) = -7",
                    "paste(0, 0, 1, 0, -1) = -7", "paste(0, 1, 1, 1, -1) = -7", "paste(0, 0, 1, 0, MIN) = -7",
                    "paste(0, 0, 1, 0, MAX) = -7", "paste(0, MAX, 1, 0, 1) = -7", "paste(0, 0, 1, MAX, 1) = -7",
                    "paste(0, MIN, 1, 0, 1) = -7", "paste(0, 0, 1, MIN, 1) = -7", "paste(0, 1, 1, 0, MAX) = -7",
                    "paste(0, MAX, 1, 0, MAX) = -7", "paste(0, MAX, 1, MAX, 2) = -7", "paste(0, 7, 1, 0, -1) = -7",
                    "paste(0, MIN, 1, MIN, MIN) = -7", };
        for (String line : refused) {
            SlateHands hands = threeRows();
            due("nothing happens", hands, line);
            numbersDue(line, hands, 0, 2, 1, 2, 3, 4, 5, 6);
            numbersDue(line, hands, 1, 2, 0, 0, 0, 0);
        }
        SlateHands hands = threeRows();
        due("all there is room for", hands, "paste(0, 2, 1, 0, 4) = 0");
        numbersDue("all there is room for", hands, 1, 2, 3, 4, 5, 6);
        due("the last to the last", hands, "paste(0, 5, 1, 3, 1) = 0", "paste(0, 0, 1, 2, 1) = 0");
        numbersDue("the last to the last", hands, 1, 2, 3, 4, 1, 6);
        due("back", hands, "paste(1, 0, 0, 2, 4) = 0");
        numbersDue("back", hands, 0, 2, 1, 2, 3, 4, 1, 6);
        SlateHands full = Ports.of(TEXT);
        due("full rows", full, "row(0, 0, 60) = 0", "row(1, 0, 60) = 0", "write(0, 59, 7) = 0", "write(0, 0, 12) = 0",
                "paste(0, 0, 1, 0, 60) = 0", "paste(0, 0, 1, 0, 61) = -7", "paste(0, 0, 1, 1, 60) = -7",
                "paste(0, 1, 1, 0, 60) = -7", "row(2, 0, 2) = 0", "paste(1, 58, 2, 0, 2) = 0", "firsts(2, 0) = 128",
                "paste(1, 0, 2, 0, 1) = 0", "firsts(2, 0) = 128", "write(1, 0, 13) = 0", "paste(1, 0, 2, 0, 1) = 0",
                "firsts(2, 0) = -2");
    }

    /** -2, then -6, then -8, then -7. */
    private static void pasteOrder() {
        SlateHands hands = threeRows();
        due("-2", hands, "paste(4, -1, 0, 0, 1) = -2", "paste(-1, -1, 0, 0, 1) = -2", "paste(0, 0, 4, -1, 1) = -2",
                "paste(0, 0, -1, -1, 1) = -2", "paste(4, 0, 3, 0, 1) = -2", "paste(3, 0, 4, 0, 1) = -2",
                "paste(MAX, 0, 0, 0, 0) = -2", "paste(0, 0, MIN, 0, 0) = -2");
        due("-6", hands, "paste(3, 0, 0, 0, 1) = -6", "paste(0, 0, 3, 0, 1) = -6", "paste(3, 0, 3, 0, 0) = -6",
                "paste(3, -1, 2, 99, -1) = -6", "paste(2, 99, 3, 0, 1) = -6", "paste(0, 0, 3, 0, 0) = -6");
        due("-8", hands, "paste(0, 0, 2, 0, 1) = -8", "paste(2, 0, 0, 0, 1) = -8", "paste(0, 0, 2, 0, 0) = -8",
                "paste(0, -1, 2, 0, 1) = -8", "paste(0, 0, 2, 99, 1) = -8", "paste(0, 0, 2, 0, -1) = -8",
                "paste(0, 7, 2, 0, 0) = -8");
        numbersDue("nothing happens", hands, 0, 2, 1, 2, 3, 4, 5, 6);
        numbersDue("nothing happens", hands, 2, 1, 0, 0, 0, 0, 0, 0);
    }

    private static void pasteOfNone() {
        SlateHands hands = threeRows();
        due("no numbers, a place as high as it has", hands, "paste(0, 6, 1, 4, 0) = 0", "paste(0, 0, 1, 0, 0) = 0",
                "paste(0, 6, 0, 6, 0) = 0", "paste(1, 4, 0, 0, 0) = 0");
        due("no numbers, a place above", hands, "paste(0, 7, 1, 4, 0) = -7", "paste(0, 6, 1, 5, 0) = -7",
                "paste(0, 0, 1, 5, 0) = -7", "paste(0, 7, 1, 0, 0) = -7", "paste(0, MAX, 1, 0, 0) = -7",
                "paste(0, 0, 1, MAX, 0) = -7", "paste(0, -1, 1, 0, 0) = -7", "paste(0, 0, 1, -1, 0) = -7");
        numbersDue("none pasted", hands, 0, 2, 1, 2, 3, 4, 5, 6);
        numbersDue("none pasted", hands, 1, 2, 0, 0, 0, 0);
        SlateHands empty = Ports.of(TEXT);
        due("rows of no numbers", empty, "row(0, 2, 0) = 0", "row(1, 2, 0) = 0", "paste(0, 0, 1, 0, 0) = 0",
                "paste(0, 1, 1, 0, 0) = -7", "paste(0, 0, 1, 1, 0) = -7", "paste(0, 0, 1, 0, 1) = -7",
                "paste(0, 0, 0, 0, 0) = 0");
    }

    private static void pasteOverItself() {
        int[][] cases = {{0, 2, 4}, {2, 0, 4}, {0, 1, 5}, {1, 0, 5}, {0, 0, 6}, {0, 3, 3}, {3, 0, 3}, {5, 0, 1}, {0, 5,
                1}};
        for (int[] one : cases) {
            int[] due = {1, 2, 3, 4, 5, 6};
            int[] was = due.clone();
            for (int i = 0; i < one[2]; i++) {
                due[one[1] + i] = was[one[0] + i];
            }
            SlateHands hands = threeRows();
            String call = "paste(0, " + one[0] + ", 0, " + one[1] + ", " + one[2] + ")";
            due("as they were", hands, call + " = 0");
            numbersDue(call, hands, 0, 2, due);
        }
    }

    /** Of one WIDTH each with each, and no number is cut anew. */
    private static void pasteWidths() {
        for (int width = 0; width < 4; width++) {
            for (int other = 0; other < 4; other++) {
                SlateHands hands = Ports.of(TEXT);
                due("WIDTHS " + width + ", " + other, hands, "row(0, " + width + ", 2) = 0", "row(1, " + other
                        + ", 2) = 0", "write(0, 1, 6) = 0", "paste(0, 0, 1, 0, 2) = " + (width == other ? 0 : -8),
                        "firsts(1, 0) = " + (width == other ? 64 : 1));
            }
        }
        SlateHands hands = Ports.of(TEXT);
        due("8 bytes", hands, "row(0, 3, 2) = 0", "row(1, 3, 2) = 0", "write(0, 1, 4294967296) = 0",
                "paste(0, 0, 1, 0, 2) = 0", "firsts(1, 0) = -2", "write(0, 1, 4) = 0", "firsts(1, 0) = -2",
                "paste(0, 1, 1, 1, 1) = 0", "firsts(1, 0) = 16");
    }

    private static void due(String name, SlateHands hands, String... lines) {
        Calls.due(CHECK, name, hands, lines);
    }
}
