/** Makes objects from PORTS written as texts. */
final class Ports {
    private Ports() {
    }

    static SlateHands of(String text) {
        SlateHands hands = new SlateHands();
        int lines = told(hands, text);
        if (lines < 0) {
            throw new IllegalArgumentException("fault " + hands.fault(0) + " at " + hands.fault(1) + ": " + text);
        }
        return hands;
    }

    /** What port() answers for a text (of at most 800 bytes) alone. */
    static int told(SlateHands hands, String text) {
        hands.end(0);
        fed(hands, text);
        return hands.port();
    }

    static void fed(SlateHands hands, String text) {
        int before = hands.count(10);
        for (int[] five : fives(text)) {
            hands.feed(five[0], five[1], five[2], five[3], five[4]);
        }
        hands.end(before + text.length());
    }

    /** A row of numbers told in SLOT 0. */
    static void row(SlateHands hands, long... numbers) {
        hands.row(0, 3, numbers.length);
        for (int i = 0; i < numbers.length; i++) {
            hands.write(0, i, numbers[i]);
        }
    }

    /** A text as feed() takes it, with blanks behind its end. */
    static int[][] fives(String text) {
        int[][] fives = new int[(text.length() + 19) / 20][5];
        for (int i = 0; i < 20 * fives.length; i++) {
            int sign = i < text.length() ? text.charAt(i) & 255 : ' ';
            fives[i / 20][i / 4 % 5] = fives[i / 20][i / 4 % 5] << 8 | sign;
        }
        return fives;
    }
}
