import java.math.BigInteger;
import java.util.Arrays;

/** The edges of promises 1 to 5 and of Terms I: bytes, TOKENS, bounds, FAULTS and their places. */
public final class TextEdgesTest {
    private static final String PORT = "port days 5 law 2 odds 1;";
    private static final String HOUSES8 = PORT + "house high 3;".repeat(8);
    private static final String HOUSES2 = PORT + "house high 3;".repeat(2);
    private static final String CARRIED = HOUSES8 + "carrier at 0 strong 9;".repeat(5) + "slate at 0 word 1;".repeat(3);
    private static final String BLANKS = " ".repeat(20);

    private static final Check CHECK = new Check();

    private TextEdgesTest() {
    }

    public static void main(String[] args) {
        feedBytes();
        feedFull();
        end();
        portEdges();
        faultKept();
        faultPlaces();
        everyByte();
        everyToken();
        bounds();
        toldAhead();
        ways();
        wordsOfASlate();
        firstByItsPlace();
        CHECK.finish();
    }

    // ---- promise 2 ----

    /** A byte that is no TOKEN is found where it was told: each of the twenty, its highest bit set or not. */
    private static void feedBytes() {
        for (int sign : new int[] {1, 127, 128, 255}) {
            for (int i = 0; i < 20; i++) {
                SlateHands hands = new SlateHands();
                Ports.fed(hands, BLANKS.substring(0, i) + (char) sign + BLANKS.substring(i + 1));
                due("byte " + i + " is " + sign, hands, "count(10) = 20", "port() = -4", "fault(1) = " + i);
            }
        }
        SlateHands hands = new SlateHands();
        due("the farthest numbers", hands, "feed(MIN, MAX, -1, 0, MIN) = 20", "feed(-1, -1, -1, -1, -1) = 40");
    }

    private static void feedFull() {
        for (int size : new int[] {779, 780, 781, 799, 800}) {
            SlateHands hands = new SlateHands();
            fill(hands, size);
            String taken = size <= 780 ? String.valueOf(size + 20) : "NONE";
            due(size + " bytes, and twenty more", hands, "count(10) = " + size, "feed(0, 0, 0, 0, 0) = " + taken,
                    "count(10) = " + (size <= 780 ? size + 20 : size));
        }
        SlateHands hands = new SlateHands();
        String text = PORT + "house high 3;".repeat(8) + "way 0 1;".repeat(12);
        Ports.fed(hands, text + "\n".repeat(790 - text.length()));
        due("none come", hands, "feed(-1, -1, -1, -1, -1) = NONE", "feed(0, 0, 0, 0, 0) = NONE", "count(10) = 790",
                "port() = 21");
        SlateHands again = new SlateHands();
        fill(again, 800);
        due("full, emptied, filled", again, "feed(0, 0, 0, 0, 0) = NONE", "port() = 0", "feed(0, 0, 0, 0, 0) = 20");
    }

    // ---- promise 3 ----

    private static void end() {
        SlateHands empty = new SlateHands();
        due("an empty TAPE", empty, "end(0) = 0", "end(1) = NONE", "end(-1) = NONE", "end(MAX) = NONE",
                "end(MIN) = NONE", "count(10) = 0");
        SlateHands full = new SlateHands();
        fill(full, 800);
        due("a full TAPE", full, "end(801) = NONE", "end(MAX) = NONE", "end(-1) = NONE", "end(MIN) = NONE",
                "count(10) = 800", "end(800) = 800", "end(799) = 799", "end(800) = NONE", "count(10) = 799",
                "end(0) = 0", "count(10) = 0");
        SlateHands refused = new SlateHands();
        Ports.fed(refused, PORT);
        due("nothing happens", refused, "end(26) = NONE", "end(-1) = NONE", "port() = 1");
        SlateHands first = new SlateHands();
        Ports.fed(first, PORT + "house high 3;;;");
        due("its first bytes alone", first, "end(38) = 38", "port() = 2");
        Ports.fed(first, PORT + "house high 12;");
        due("the end within a number", first, "end(37) = 37", "port() = -4", "fault(0) = 1", "fault(1) = 37");
        Ports.fed(first, PORT + "house high 12");
        first.end(37);
        Ports.fed(first, ";");
        due("bytes come behind the end", first, "count(10) = 38", "port() = 2", "house(0) = 1");
    }

    // ---- promise 4 ----

    private static void portEdges() {
        String full = FullPort.of(12);
        SlateHands hands = new SlateHands();
        Ports.fed(hands, full + "\n".repeat(800 - full.length()));
        due("800 bytes, as many LINES as can be", hands, "count(10) = 800", "port() = 41", "count(9) = 41",
                "count(10) = 0", "fault(0) = 0", "fault(1) = NONE");
        due("the TAPE is empty then: no LINES, no PORT", hands, "port() = 0", "count(9) = 0", "dones() = -2",
                "house(0) = -2", "fault(0) = 0", "fault(1) = NONE");
        Ports.fed(hands, PORT);
        due("one LINE", hands, "port() = 1", "dones() = 0");
        Ports.fed(hands, PORT + "house");
        due("a FAULT", hands, "port() = -4", "count(10) = 0", "count(9) = 1", "dones() = 0");
        due("and the empty TAPE behind it", hands, "port() = 0", "fault(0) = 0", "fault(1) = NONE", "dones() = -2");
        for (String blank : new String[] {"", " ", "\n", " \n \n\n", " ".repeat(800)}) {
            Ports.fed(hands, blank);
            due(blank.length() + " blanks", hands, "port() = 0", "dones() = -2", "count(3) = 0");
        }
    }

    /** All but the TAPE stays with a FAULT: the PORT, what was rated, acts, IMAGES, SLOTS. */
    private static void faultKept() {
        SlateHands hands = Ports.of(FullPort.ONE_EACH);
        due("ahead of it", hands, "rate(0, 50) = 1", "image(2) = 0", "rub(0, 0) = 1", "carry(0, 0, 0, 0) = 0",
                "row(3, 1, 2) = 0", "write(3, 1, 1) = 0");
        for (String text : new String[] {"port", PORT + "port", PORT + "house high 21;", HOUSES8 + "house high 3;",
                "ports"}) {
            Ports.fed(hands, text);
            due(text, hands, "port() = -4", "count(10) = 0", "count(0) = 1", "count(1) = 0", "count(2) = 0",
                    "count(3) = 2", "count(4) = 1", "count(5) = 1", "count(6) = 1", "count(7) = 1", "count(8) = 2",
                    "count(9) = 7", "count(11) = 1", "carrier(0, 1) = 50", "house(0) = 0", "word(0, 0) = 1",
                    "left(0, 0) = 0", "dones() = 1", "why(1) = 2", "firsts(3, 0) = 2", "back(0) = -6");
        }
        due("the IMAGE and acts", hands, "undo() = 1", "undo() = 0", "back(2) = 0", "count(8) = 0", "left(0, 0) = 1");
    }

    // ---- promise 5 ----

    private static void faultPlaces() {
        SlateHands hands = new SlateHands();
        due("ahead of any", hands, "fault(0) = 0", "fault(1) = NONE", "fault(2) = NONE", "fault(-1) = NONE",
                "fault(MAX) = NONE", "fault(MIN) = NONE");
        fault("at the first byte", "x" + PORT, 1, 0);
        String full = PORT + " ".repeat(800 - PORT.length());
        fault("at the last byte of a full TAPE", full.substring(0, 799) + "x", 1, 799);
        String open = "port days 5 law 2 odds 1";
        fault("at the end of a full TAPE", open + " ".repeat(800 - open.length()), 1, 800);
        Ports.told(hands, "house");
        due("what there is none of", hands, "fault(0) = 1", "fault(1) = 0", "fault(2) = NONE", "fault(-1) = NONE",
                "fault(MAX) = NONE", "fault(MIN) = NONE");
        Ports.told(hands, "port days 13");
        due("of the latest port()", hands, "fault(0) = 2", "fault(1) = 10");
        Ports.told(hands, HOUSES8 + "house");
        due("of the latest port()", hands, "fault(0) = 3", "fault(1) = 129");
        due("other calls leave it", hands, "end(0) = 0", "feed(0, 0, 0, 0, 0) = 20", "end(0) = 0", "image(0) = 0",
                "back(0) = 0", "fault(0) = 3", "fault(1) = 129");
        Ports.told(hands, "");
        due("of the latest port(), without", hands, "fault(0) = 0", "fault(1) = NONE");
    }

    // ---- Terms I ----

    /** What is due of a text with # in place of a blank, a letter, a digit, the sign ; and any other byte. */
    private static void everyByte() {
        withEachByte("ahead of all", "#" + PORT, "taken", "1 0", "1 0", "1 0", "1 0");
        withEachByte("between LINES", PORT + "#house high 3;", "taken", "1 25", "1 25", "1 25", "1 25");
        withEachByte("behind a word", PORT + "house#high 3;", "taken", "1 25", "1 30", "1 30", "1 30");
        withEachByte("ahead of a number", PORT + "house high#21;", "2 36", "1 31", "2 35", "1 35", "1 35");
        withEachByte("behind a number", PORT + "house high 3#;", "taken", "1 37", "2 36", "1 38", "1 37");
        withEachByte("in place of ;", PORT + "house high 0#house high 3;", "1 38", "1 37", "1 38", "taken", "1 37");
        withEachByte("behind all", PORT + "#", "taken", "1 25", "1 25", "1 25", "1 25");
    }

    private static void withEachByte(String name, String text, String... due) {
        for (int sign = 0; sign < 256; sign++) {
            String with = text.replace('#', (char) sign);
            String[] parts = due[kindOf(sign)].split(" ");
            if (parts.length == 1) {
                told(with);
            } else {
                fault("the byte " + sign + " " + name, with, Integer.parseInt(parts[0]), Integer.parseInt(parts[1]));
            }
        }
    }

    private static int kindOf(int sign) {
        if (sign == 32 || sign == 10) {
            return 0;
        }
        if (sign >= 97 && sign <= 122) {
            return 1;
        }
        if (sign >= 48 && sign <= 57) {
            return 2;
        }
        return sign == 59 ? 3 : 4;
    }

    /** Each TOKEN of each LINE: the text ends ahead of it, or something else stands there, or it stands twice. */
    private static void everyToken() {
        everyTokenOf("", "port days 5 law 2 odds 1 ;");
        everyTokenOf(PORT, "house high 3 ;");
        everyTokenOf(HOUSES2, "way 0 1 ;");
        everyTokenOf(HOUSES2, "carrier at 0 strong 3 ;");
        everyTokenOf(HOUSES2, "slate at 1 word 3 ;");
        everyTokenOf(CARRIED, "carry 0 0 to 1 at 0 ;");
    }

    private static void everyTokenOf(String ahead, String line) {
        String[] tokens = line.split(" ");
        told(ahead + line);
        String before = ahead;
        for (int i = 0; i < tokens.length; i++) {
            String token = tokens[i];
            boolean number = Character.isDigit(token.charAt(0));
            String behind = " " + String.join(" ", Arrays.copyOfRange(tokens, i + 1, tokens.length));
            String name = line + " token " + i;
            if (i > 0) {
                fault(name + ", the end", before, 1, before.length());
                fault(name + ", the end behind blanks", before + " \n", 1, before.length() + 2);
            }
            if (i > 0 && !token.equals(";")) {
                fault(name + ", ; for all the rest", before + " ;", 1, before.length() + 1);
                fault(name + ", ; for all the rest of a LINE", before + " ;house high 3;", 1, before.length() + 1);
            }
            for (String other : new String[] {"zz", ";", "port", "house", "at", "3", "A", "-"}) {
                boolean canStand = other.equals(token) || number && other.equals("3") || i == 0
                        && other.equals("house");
                if (!canStand) {
                    fault(name + ", " + other + " for it", before + " " + other + behind, 1, before.length() + 1);
                }
            }
            if (number) {
                fault(name + ", a huge number", before + " 77777777777" + behind, 2, before.length() + 1);
                fault(name + ", below 0", before + " -1" + behind, 1, before.length() + 1);
            } else {
                int place = before.length() + 1 + token.length() + 1;
                fault(name + ", twice", before + " " + token + " " + token + behind, 1, place);
                fault(name + ", a letter more", before + " " + token + "x" + behind, 1,
                        token.equals(";") ? before.length() + 2 : before.length() + 1);
            }
            before = before + " " + token;
        }
    }

    private static void bounds() {
        bound("", "port days # law 2 odds 1;", 1, 12, "count(0)");
        bound("", "port days 5 law # odds 1;", 0, 3, "count(1)");
        bound("", "port days 5 law 2 odds #;", 0, 10, "count(2)");
        bound(PORT, "house high #;", 0, 20, "house(0)");
        bound(HOUSES8, "carrier at # strong 3;", 0, 7, "carrier(0, 0)");
        bound(HOUSES2, "carrier at # strong 3;", 0, 1, "carrier(0, 0)");
        bound(HOUSES2, "carrier at 1 strong #;", 0, 99, "carrier(0, 1)");
        bound(HOUSES8, "slate at # word 3;", 0, 7, "lies(0, 5)");
        bound(HOUSES2, "slate at # word 3;", 0, 1, "lies(0, 5)");
        bound(HOUSES2, "slate at 1 word #;", 1, 30, "word(0, 0)");
        bound(HOUSES2, "slate at 1 word 1 word 1 word 1 word 1 word 1 word #;", 1, 30, "word(0, 5)");
        bound(CARRIED, "carry # 0 to 1 at 0;", 0, 4, null);
        bound(CARRIED, "carry 0 # to 1 at 0;", 0, 2, null);
        bound(CARRIED, "carry 0 0 to # at 0;", 0, 7, null);
        bound(CARRIED, "carry 0 0 to 1 at #;", 0, 11, null);
        String least = HOUSES2 + "carrier at 0 strong 9;slate at 0 word 1;";
        bound(least, "carry # 0 to 1 at 0;", 0, 0, null);
        bound(least, "carry 0 # to 1 at 0;", 0, 0, null);
        bound(least, "carry 0 0 to # at 0;", 0, 1, null);
        fault("no HOUSE at all", PORT + "carrier at 0 strong 3;", 2, 36);
        fault("no HOUSE at all", PORT + "slate at 0 word 3;", 2, 34);
        fault("no HOUSE at all", PORT + "way 0 1;", 2, 29);
        fault("no CARRIER at all", HOUSES2 + "slate at 0 word 1;carry 0 0 to 1 at 0;", 2, 75);
        fault("no SLATE at all", HOUSES2 + "carrier at 0 strong 9;carry 0 0 to 1 at 0;", 2, 81);
    }

    /** The number that stands for #: all within are taken, the next on both sides and the farthest are not. */
    private static void bound(String ahead, String line, int least, int most, String getter) {
        int place = ahead.length() + line.indexOf('#');
        for (int n = least; n <= most; n++) {
            for (String noughts : new String[] {"", "0", "0".repeat(40)}) {
                SlateHands hands = new SlateHands();
                String text = ahead + line.replace("#", noughts + n);
                due(line + " of " + noughts + n, hands, "end(0) = 0");
                CHECK.due(line + " of " + noughts + n, Ports.told(hands, text) > 0 ? 1 : 0, 1);
                if (getter != null) {
                    CHECK.due(line + " of " + n + ": " + getter, Calls.asked(hands, getter), n);
                }
            }
        }
        BigInteger within = BigInteger.valueOf(least);
        String[] beyond = {String.valueOf(most + 1), String.valueOf(most + 10), String.valueOf(10 * most + 10), "999",
                "1000", "1001", within.add(BigInteger.ONE.shiftLeft(8)).toString(),
                within.add(BigInteger.ONE.shiftLeft(16)).toString(), "2147483647", "2147483648",
                within.add(BigInteger.ONE.shiftLeft(32)).toString(), "9223372036854775808",
                within.add(BigInteger.ONE.shiftLeft(64)).toString(), "9".repeat(60), "1" + "0".repeat(60)};
        for (String number : beyond) {
            fault(line + " of " + number, ahead + line.replace("#", number), 2, place);
        }
        for (int n = 0; n < least; n++) {
            fault(line + " of " + n, ahead + line.replace("#", String.valueOf(n)), 2, place);
        }
    }

    private static void toldAhead() {
        SlateHands mixed = Ports.of("port days 2 law 0 odds 0;house high 1;slate at 0 word 4;house high 2;way 1 0;"
                + "carrier at 0 strong 9;carry 0 0 to 1 at 0;slate at 1 word 5;house high 3;carrier at 2 strong 8;"
                + "way 2 1;carry 1 1 to 2 at 1;");
        due("numbered as they stand, whatever stands between", mixed, "count(9) = 12", "house(2) = 3", "doors(1) = 5",
                "carrier(1, 0) = 2", "word(1, 0) = 5", "why(0) = 0", "why(1) = 3", "lies(1, 0) = 1");
        fault("a HOUSE told behind", HOUSES2 + "carrier at 2 strong 3;house high 3;", 2, 62);
        fault("a HOUSE told behind", HOUSES2 + "slate at 2 word 3;house high 3;", 2, 60);
        fault("a CARRIER told behind", HOUSES2 + "slate at 0 word 1;carry 0 0 to 1 at 0;carrier at 0 strong 9;", 2, 75);
        fault("a SLATE told behind", HOUSES2 + "carrier at 0 strong 9;carry 0 0 to 1 at 0;slate at 0 word 1;", 2, 81);
        fault("a HOUSE told behind", HOUSES2
                + "carrier at 0 strong 9;slate at 0 word 1;carry 0 0 to 2 at 0;house high 3;", 2, 104);
    }

    private static void ways() {
        for (int houses = 1; houses <= 8; houses++) {
            String ahead = PORT + "house high 3;".repeat(houses);
            int place = ahead.length() + 4;
            for (int from = 0; from <= 9; from++) {
                for (int to = 0; to <= 9; to++) {
                    String text = ahead + "way " + from + " " + to + ";";
                    if (from >= houses) {
                        fault(text, text, 2, place);
                    } else if (to >= houses || to == from) {
                        fault(text, text, 2, place + 2);
                    } else {
                        told(text);
                    }
                }
            }
        }
        fault("the same HOUSE, told otherwise", HOUSES2 + "way 1 0001;", 2, 57);
        fault("huge, and the same", HOUSES2 + "way 77777 77777;", 2, 55);
        fault("the same, and no ;", HOUSES2 + "way 1 1 1", 2, 57);
    }

    private static void wordsOfASlate() {
        for (int words = 1; words <= 6; words++) {
            SlateHands hands = Ports.of(HOUSES2 + "slate at 0" + " word 3".repeat(words) + ";");
            due(words + " WORDS", hands, "word(0, " + (words - 1) + ") = 3", "word(0, " + words + ") = NONE",
                    "left(0, 0) = " + ((1 << words) - 1));
        }
        fault("no WORD", HOUSES2 + "slate at 0;", 1, 61);
        fault("no WORD, and the end", HOUSES2 + "slate at 0", 1, 61);
        String six = HOUSES2 + "slate at 0" + " word 3".repeat(6);
        fault("a 7th WORD", six + " word 3;", 3, six.length() + 1);
        fault("a 7th WORD, no number", six + " word;", 3, six.length() + 1);
        fault("a 7th WORD, the end", six + " word", 3, six.length() + 1);
        fault("an 8th WORD too", six + " word 3 word 3;", 3, six.length() + 1);
        fault("no 7th WORD", six + " words 3;", 1, six.length() + 1);
        fault("a number for a 7th WORD", six + " 3;", 1, six.length() + 1);
        fault("the end behind six", six, 1, six.length());
        fault("a 6th WORD of 31", six.substring(0, six.length() - 1) + "31 word 3;", 2, six.length() - 1);
        SlateHands hands = Ports.of(HOUSES2 + "slate at 0" + " word 3".repeat(6) + ";slate at 1 word 7;");
        due("fewer WORDS behind more", hands, "word(1, 0) = 7", "word(1, 1) = NONE", "left(1, 0) = 1",
                "left(0, 0) = 63");
    }

    private static void firstByItsPlace() {
        fault("2 ahead of 1", PORT + "house high 21 high", 2, 36);
        fault("1 ahead of 2", PORT + "house hi 21;", 1, 31);
        fault("2 ahead of 3", PORT + "house high 21;" + "house high 3;".repeat(8), 2, 36);
        fault("3 ahead of 2", HOUSES8 + "house high 21;", 3, 129);
        fault("3 ahead of 1", HOUSES8 + "house;", 3, 129);
        fault("3 at the word, the end behind it", HOUSES8 + "house", 3, 129);
        fault("1 rather than 3, without ;", HOUSES8.substring(0, 128) + " house high 3;", 1, 129);
        fault("1 of a number rather than 2", PORT + "house high 3 99;", 1, 38);
        fault("1 of a number rather than 2, for a word", PORT + "house 99;", 1, 31);
        fault("a 13th way of no HOUSE", HOUSES2 + "way 0 1;".repeat(12) + "way 9 9;", 3, HOUSES2.length() + 96);
        fault("a 6th carrier of no HOUSE", HOUSES2 + "carrier at 0 strong 9;".repeat(5) + "carrier at 9", 3, 161);
        fault("a 4th slate of no HOUSE", HOUSES2 + "slate at 0 word 1;".repeat(3) + "slate at 9", 3, 105);
        String carries = HOUSES2 + "carrier at 0 strong 9;slate at 0 word 1;" + "carry 0 0 to 1 at 0;".repeat(12);
        fault("a 13th carry of no CARRIER", carries + "carry 9 9 to 9 at 99;", 3, carries.length());
        fault("a 13th carry and the end", carries + "carry", 3, carries.length());
        fault("other LINES behind the last carry", carries + "carry0", 3, carries.length());
        told(carries + "house high 3;way 0 2;carrier at 0 strong 9;slate at 0 word 1;");
    }

    // ---- what the tests above share ----

    private static void due(String name, SlateHands hands, String... lines) {
        Calls.due(CHECK, name, hands, lines);
    }

    private static void fill(SlateHands hands, int size) {
        Ports.fed(hands, "\n".repeat(size));
    }

    private static void told(String text) {
        SlateHands hands = new SlateHands();
        int lines = (int) text.chars().filter(sign -> sign == ';').count();
        CHECK.due(text + ": port()", Ports.told(hands, text), lines);
        due(text, hands, "fault(0) = 0", "fault(1) = NONE", "count(9) = " + lines);
    }

    private static void fault(String name, String text, int what, int place) {
        SlateHands hands = new SlateHands();
        CHECK.due(name + ": port()", Ports.told(hands, text), -4);
        due(name, hands, "fault(0) = " + what, "fault(1) = " + place, "count(9) = 0", "count(10) = 0");
    }
}
