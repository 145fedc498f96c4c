/** Makes objects from PORTS written as texts. */
final class Ports {
    private Ports() {
    }

    static SlateHands of(String text) {
        SlateHands hands = new SlateHands();
        int lines = told(hands, text);
        if (lines < 0) {
            throw new IllegalArgumentException("fault " + hands.fault(0) + " at " + hands.fault(1) + ": " + text);
        }
        return hands;
    }

    /** What port() answers for a text (of at most 800 bytes) alone. */
    static int told(SlateHands hands, String text) {
        hands.end(0);
        fed(hands, text);
        return hands.port();
    }

    static void fed(SlateHands hands, String text) {
        int before = hands.count(10);
        for (int i = 0; i < text.length(); i += 20) {
            hands.feed(four(text, i), four(text, i + 4), four(text, i + 8), four(text, i + 12), four(text, i + 16));
        }
        hands.end(before + text.length());
    }

    /** A row of numbers told in SLOT 0. */
    static void row(SlateHands hands, long... numbers) {
        hands.row(0, 3, numbers.length);
        for (int i = 0; i < numbers.length; i++) {
            hands.write(0, i, numbers[i]);
        }
    }

    private static int four(String text, int from) {
        int number = 0;
        for (int i = from; i < from + 4; i++) {
            number = number << 8 | (i < text.length() ? text.charAt(i) & 255 : ' ');
        }
        return number;
    }
}
