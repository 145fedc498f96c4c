/** Promises 62 to 64: SLOTS; what stands in a row is seen by firsts(). */
public final class RowsTest {
    // Slate 0 lies in h all DAYS, if in h at first: so firsts() of a row (0, h) is 1 << h.
    private static final String TEXT = "port days 12 law 0 odds 0;" + "house high 0;".repeat(8) + "slate at 0 word 1;";

    private static final Check CHECK = new Check();

    private RowsTest() {
    }

    public static void main(String[] args) {
        promise62();
        promise63();
        widths();
        promise64();
        withinOneRow();
        wrongPastes();
        CHECK.finish();
    }

    private static void promise62() {
        SlateHands hands = Ports.of(TEXT);
        CHECK.due("row(0, 0, 60)", hands.row(0, 0, 60), 0);
        CHECK.due("row(3, 3, 0)", hands.row(3, 3, 0), 0);
        CHECK.due("SLOTS", hands.count(11), 2);
        CHECK.due("row(0, 0, 61)", hands.row(0, 0, 61), -2);
        CHECK.due("row(4, 0, 1)", hands.row(4, 0, 1), -2);
        CHECK.due("row(-1, 0, 1)", hands.row(-1, 0, 1), -2);
        CHECK.due("row(0, 4, 1)", hands.row(0, 4, 1), -2);
        CHECK.due("row(0, -1, 1)", hands.row(0, -1, 1), -2);
        CHECK.due("row(0, 0, -1)", hands.row(0, 0, -1), -3);
        CHECK.due("row(0, 4, -1), asked ahead", hands.row(0, 4, -1), -2);
        CHECK.due("row(4, 0, -1), asked ahead", hands.row(4, 0, -1), -2);
        CHECK.due("all 0", hands.firsts(0, 0), 1);
        CHECK.due("write(0, 59)", hands.write(0, 59, 5), 0);
        CHECK.due("row(1, 0, -1)", hands.row(1, 0, -1), -3);
        CHECK.due("no row of it", hands.write(1, 0, 0), -6);
        CHECK.due("the SLOT stays as it was", hands.firsts(0, 0), 0);
        CHECK.due("write(0, 0)", hands.write(0, 0, 13), 0);
        CHECK.due("in place of another one", hands.row(0, 1, 60), 0);
        CHECK.due("all 0 again", hands.firsts(0, 0), 1);
        CHECK.due("SLOTS still", hands.count(11), 2);
        CHECK.due("a row of no numbers", hands.firsts(3, 0), 255);
        CHECK.due("a shorter row", hands.row(0, 0, 1), 0);
        CHECK.due("has no more", hands.write(0, 1, 0), -7);
        Ports.told(hands, "");
        CHECK.due("rows without a PORT", hands.write(0, 0, 0), 0);
    }

    private static void promise63() {
        SlateHands hands = Ports.of(TEXT);
        hands.row(2, 0, 2);
        CHECK.due("write(2, 1, 6)", hands.write(2, 1, 6), 0);
        CHECK.due("firsts(2, 0)", hands.firsts(2, 0), 1 << 6);
        CHECK.due("write(2, 0, 12)", hands.write(2, 0, 12), 0);
        CHECK.due("firsts(2, 0)", hands.firsts(2, 0), 1 << 6);
        CHECK.due("write(2, 2, 0)", hands.write(2, 2, 0), -7);
        CHECK.due("write(2, -1, 0)", hands.write(2, -1, 0), -7);
        CHECK.due("write(0, 0, 0)", hands.write(0, 0, 0), -6);
        CHECK.due("write(0, 99, 0), asked ahead", hands.write(0, 99, 0), -6);
        CHECK.due("write(4, 0, 0)", hands.write(4, 0, 0), -2);
        CHECK.due("write(-1, 0, 0)", hands.write(-1, 0, 0), -2);
    }

    /** A number is cut if what is beyond its WIDTH does not make it none such. */
    private static void widths() {
        SlateHands hands = Ports.of(TEXT);
        long[] beyond = {1L << 8, 1L << 16, 1L << 32};
        long[] within = {1L << 7, 1L << 15, 1L << 31, 1L << 63};
        for (int width = 0; width < 4; width++) {
            hands.row(0, width, 2);
            hands.write(0, 1, 3);
            CHECK.due("width " + width + ", 3", hands.firsts(0, 0), 8);
            if (width < 3) {
                hands.write(0, 1, beyond[width] + 4);
                CHECK.due("width " + width + ", cut", hands.firsts(0, 0), 16);
                hands.write(0, 1, beyond[width] * -5 + 2);
                CHECK.due("width " + width + ", below 0 cut", hands.firsts(0, 0), 4);
            }
            hands.write(0, 1, within[width] + 4);
            CHECK.due("width " + width + ", its highest bit", hands.firsts(0, 0), -2);
            hands.write(0, 1, -1);
            CHECK.due("width " + width + ", -1", hands.firsts(0, 0), -2);
        }
    }

    private static SlateHands twoRows() {
        SlateHands hands = Ports.of(TEXT);
        hands.row(0, 2, 6);
        hands.row(1, 2, 4);
        hands.row(2, 1, 6);
        for (int i = 0; i < 6; i++) {
            hands.write(0, i, i + 1);
        }
        return hands;
    }

    /** The numbers from one on, as the HOUSES that firsts() sees, lowest first. */
    private static void rowDue(String name, SlateHands hands, int slot, int... numbers) {
        hands.row(3, 2, 2);
        for (int i = 0; i < numbers.length; i++) {
            hands.paste(slot, i, 3, 1, 1);
            CHECK.due(name + ": number " + i, hands.firsts(3, 0), 1 << numbers[i]);
        }
    }

    private static void promise64() {
        SlateHands hands = twoRows();
        CHECK.due("paste(0, 1, 1, 2, 2)", hands.paste(0, 1, 1, 2, 2), 0);
        rowDue("pasted", hands, 1, 0, 0, 2, 3);
        rowDue("from where it was", hands, 0, 1, 2, 3, 4, 5, 6);
        CHECK.due("paste(0, 2, 1, 0, 4), all of one", hands.paste(0, 2, 1, 0, 4), 0);
        rowDue("pasted all", hands, 1, 3, 4, 5, 6);
        CHECK.due("paste(0, 6, 1, 4, 0), behind the last", hands.paste(0, 6, 1, 4, 0), 0);
        CHECK.due("paste(0, 0, 1, 0, 0)", hands.paste(0, 0, 1, 0, 0), 0);
        rowDue("none pasted", hands, 1, 3, 4, 5, 6);
    }

    private static void withinOneRow() {
        SlateHands up = twoRows();
        CHECK.due("paste(0, 0, 0, 2, 4)", up.paste(0, 0, 0, 2, 4), 0);
        rowDue("up, as they were", up, 0, 1, 2, 1, 2, 3, 4);
        SlateHands down = twoRows();
        CHECK.due("paste(0, 1, 0, 0, 5)", down.paste(0, 1, 0, 0, 5), 0);
        rowDue("down, as they were", down, 0, 2, 3, 4, 5, 6, 6);
    }

    private static void wrongPastes() {
        SlateHands hands = twoRows();
        int[][] wrong = {
            {4, 0, 1, 0, 1, -2}, {-1, 0, 1, 0, 1, -2}, {0, 0, 4, 0, 1, -2}, {0, 0, -1, 0, 1, -2},
            {4, 0, 3, 0, 1, -2}, {3, 0, 1, 0, 1, -6}, {0, 0, 3, 0, 1, -6}, {0, 0, 2, 0, 1, -8}, {2, 0, 0, 0, 1, -8},
            {2, 0, 0, 0, 99, -8}, {3, 0, 1, -1, 99, -6},
            {0, 5, 1, 0, 2, -7}, {0, 0, 1, 3, 2, -7}, {0, 7, 1, 0, 0, -7}, {0, 0, 1, 5, 0, -7}, {0, 0, 1, 0, 5, -7},
            {0, -1, 1, 0, 1, -7}, {0, 0, 1, -1, 1, -7}, {0, 0, 1, 0, -1, -7}, {0, 1, 1, 1, -1, -7},
            {0, Integer.MAX_VALUE, 1, 0, 1, -7}, {0, 1, 1, Integer.MAX_VALUE, Integer.MAX_VALUE, -7},
            {0, Integer.MIN_VALUE, 1, 0, Integer.MIN_VALUE, -7},
        };
        for (int[] w : wrong) {
            CHECK.due("paste(" + w[0] + ", " + w[1] + ", " + w[2] + ", " + w[3] + ", " + w[4] + ")",
                    hands.paste(w[0], w[1], w[2], w[3], w[4]), w[5]);
        }
        rowDue("nothing happens", hands, 1, 0, 0, 0, 0);
        rowDue("nothing happens", hands, 0, 1, 2, 3, 4, 5, 6);
    }
}
