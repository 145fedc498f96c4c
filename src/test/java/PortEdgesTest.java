/** The edges of promises 6 to 11 and 59: the first and the last of each, islands, climbs. */
public final class PortEdgesTest {
    private static final String PORT = "port days 1 law 0 odds 0;";

    private static final Check CHECK = new Check();

    private PortEdgesTest() {
    }

    public static void main(String[] args) {
        fullPort();
        island();
        row();
        zigzag();
        star();
        twoWaysOfOne();
        longerButLower();
        counts();
        CHECK.finish();
    }

    private static void fullPort() {
        SlateHands full = Ports.of(FullPort.of(12));
        due("promise 6", full, "house(0) = 0", "house(5) = 0", "house(6) = 1", "house(7) = 20", "house(8) = -2",
                "house(-1) = -2");
        due("promise 7", full, "carrier(3, 0) = 0", "carrier(3, 1) = 0", "carrier(4, 0) = 6", "carrier(4, 1) = 99",
                "carrier(5, 0) = -2", "carrier(-1, 0) = -2", "carrier(4, 2) = -2", "carrier(4, -1) = -2");
        due("promise 8", full, "word(0, 0) = 1", "word(0, 1) = NONE", "word(2, 0) = 1", "word(2, 5) = 30",
                "word(2, 6) = NONE", "word(2, -1) = NONE", "word(2, MAX) = NONE", "word(2, MIN) = NONE",
                "word(3, 0) = -2", "word(3, 6) = -2", "word(-1, 0) = -2", "word(-1, -1) = -2");
        due("promise 8, no place of a SLATE must be one of the next", full, "word(1, -1) = NONE", "word(1, 1) = NONE",
                "word(0, 12) = NONE", "word(0, 6) = NONE");
        due("promise 9", full, "doors(0) = 0b00000110", "doors(6) = 0b10110000", "doors(7) = 0b01000000",
                "doors(8) = -2", "doors(-1) = -2");
        due("promise 10", full, "far(0, 7) = 4", "far(7, 0) = 4", "far(7, 7) = 0", "far(7, 8) = -2", "far(8, 7) = -2",
                "far(8, 8) = -2", "far(-1, -1) = -2");
        due("promise 11", full, "climb(0, 7) = 20", "climb(7, 0) = 0", "climb(6, 7) = 19", "climb(7, 7) = 0",
                "climb(7, 8) = -2", "climb(8, 7) = -2", "climb(8, 8) = -2", "climb(-1, -1) = -2");
        due("promise 7, as told, wherever he is", full, "at(4, 12) = 7", "carrier(4, 0) = 6");
        due("promise 8, as told, though rubbed out", full, "rub(2, 5) = 1", "word(2, 5) = 30");
        SlateHands one = Ports.of(PORT + "house high 0;");
        due("one HOUSE", one, "house(0) = 0", "house(1) = -2", "doors(0) = 0", "far(0, 0) = 0", "climb(0, 0) = 0",
                "far(0, 1) = -2", "climb(1, 0) = -2");
    }

    private static void island() {
        SlateHands hands = Ports.of(PORT + "house high 9;house high 0;house high 0;house high 20;way 1 2;");
        due("no WAYS from it", hands, "doors(0) = 0", "doors(3) = 0", "far(0, 1) = NONE", "far(1, 0) = NONE",
                "far(0, 3) = NONE", "climb(0, 1) = NONE", "climb(1, 3) = NONE", "climb(0, 3) = NONE");
        due("it is the same", hands, "far(0, 0) = 0", "far(3, 3) = 0", "climb(0, 0) = 0", "climb(3, 3) = 0");
        due("and a way elsewhere", hands, "far(1, 2) = 1", "climb(1, 2) = 0");
    }

    /** As many WAYS as there can be from one HOUSE to another. */
    private static void row() {
        StringBuilder text = new StringBuilder(PORT + "house high 0;".repeat(7) + "house high 20;");
        for (int h = 0; h < 7; h++) {
            text.append("way ").append(h + 1).append(' ').append(h).append(';');
        }
        SlateHands hands = Ports.of(text.toString());
        for (int h = 0; h < 8; h++) {
            due("in a row", hands, "far(0, " + h + ") = " + h, "far(" + h + ", 7) = " + (7 - h),
                    "climb(0, " + h + ") = " + (h == 7 ? 20 : 0), "climb(7, " + h + ") = 0");
        }
    }

    /** The highest climbs of all together. */
    private static void zigzag() {
        StringBuilder text = new StringBuilder(PORT + "house high 0;house high 20;".repeat(4));
        for (int h = 7; h > 0; h--) {
            text.append("way ").append(h - 1).append(' ').append(h).append(';');
        }
        SlateHands hands = Ports.of(text.toString());
        due("up and down", hands, "climb(0, 7) = 80", "climb(7, 0) = 60", "climb(1, 0) = 0", "climb(0, 1) = 20",
                "climb(1, 2) = 0", "climb(1, 3) = 20");
    }

    private static void star() {
        StringBuilder text = new StringBuilder(PORT + "house high 4;".repeat(8));
        for (int h = 0; h < 7; h++) {
            text.append("way 7 ").append(h).append(';');
        }
        SlateHands hands = Ports.of(text.toString());
        due("WAYS to all others", hands, "doors(7) = 127", "doors(0) = 128", "doors(6) = 128", "far(0, 6) = 2",
                "climb(0, 6) = 0");
    }

    private static void twoWaysOfOne() {
        SlateHands hands = Ports.of(PORT + "house high 0;house high 3;" + "way 0 1;way 1 0;".repeat(6));
        due("one WAY twelve times", hands, "count(4) = 12", "doors(0) = 2", "doors(1) = 1", "far(0, 1) = 1",
                "climb(0, 1) = 3", "climb(1, 0) = 0");
    }

    /** The seven WAYS of which each is needed climb less than the one at once. */
    private static void longerButLower() {
        StringBuilder text = new StringBuilder(PORT
                + "house high 0;house high 1;house high 20;house high 2;house high 3;"
                + "house high 4;house high 5;house high 6;way 0 2;way 2 7;");
        int[] low = {0, 1, 3, 4, 5, 6, 7};
        for (int i = 5; i >= 0; i--) {
            text.append("way ").append(low[i]).append(' ').append(low[i + 1]).append(';');
        }
        SlateHands hands = Ports.of(text.toString());
        due("longer but lower", hands, "far(0, 7) = 2", "climb(0, 7) = 6", "climb(0, 2) = 20", "climb(7, 0) = 0",
                "climb(7, 2) = 14", "climb(2, 7) = 0");
    }

    private static void counts() {
        SlateHands hands = new SlateHands();
        for (int what = 0; what <= 11; what++) {
            due("promise 59, new", hands, "count(" + what + ") = 0");
        }
        int[] due = {12, 0, 10, 8, 12, 5, 3, 12, 0, 41, 0, 0};
        Ports.told(hands, FullPort.of(12));
        for (int what = 0; what <= 11; what++) {
            due("promise 59, full", hands, "count(" + what + ") = " + due[what]);
        }
        due("promise 59, none such", hands, "count(12) = NONE", "count(-1) = NONE", "count(MAX) = NONE",
                "count(MIN) = NONE");
        for (int slot = 0; slot < 4; slot++) {
            due("promise 59, SLOTS", hands, "row(" + slot + ", 0, " + slot + ") = 0", "count(11) = " + (slot + 1));
        }
        due("promise 59, SLOTS, one again", hands, "row(0, 3, 60) = 0", "count(11) = 4", "row(0, 3, -1) = -3",
                "count(11) = 4");
        due("promise 59, acts", hands, "carry(0, 0, 0, 0) = 0", "count(8) = 1", "count(7) = 12", "rub(0, 0) = 1",
                "count(8) = 2", "count(9) = 41", "undo() = 1", "count(8) = 1");
        due("promise 59, bytes", hands, "feed(0, 0, 0, 0, 0) = 20", "count(10) = 20", "end(1) = 1", "count(10) = 1",
                "end(0) = 0", "count(10) = 0");
        SlateHands other = Ports.of("port days 1 law 3 odds 0;");
        due("promise 59, days, LAW, odds", other, "count(0) = 1", "count(1) = 3", "count(2) = 0", "count(3) = 0",
                "count(9) = 1");
        due("promise 59, LAW told, whichever is asked of", Ports.of(FullPort.ONE_EACH), "by(0, 3) = 3", "law(0) = 0",
                "count(1) = 0");
    }

    private static void due(String name, SlateHands hands, String... lines) {
        Calls.due(CHECK, name, hands, lines);
    }
}
