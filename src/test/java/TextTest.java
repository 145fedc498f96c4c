/** Promises 1 to 5 and Terms I: the TAPE, its reading, and FAULTS. */
public final class TextTest {
    private static final String PORT = "port days 5 law 2 odds 1;";
    private static final String HOUSE = "house high 3;";
    private static final String WAY = "way 0 1;";
    private static final String CARRIER = "carrier at 0 strong 9;";
    private static final String SLATE = "slate at 0 word 1;";
    private static final String CARRY = "carry 0 0 to 1 at 0;";
    private static final String TWO_HOUSES = PORT + HOUSE + HOUSE;
    private static final String ALL = TWO_HOUSES + WAY + CARRIER + SLATE + CARRY;

    private static final Check CHECK = new Check();

    private TextTest() {
    }

    public static void main(String[] args) {
        promise1();
        promise2();
        promise3();
        promise4();
        promise5();
        tokens();
        cannotStand();
        outOfBounds();
        tooMany();
        CHECK.finish();
    }

    private static void promise1() {
        SlateHands hands = new SlateHands();
        for (int what = 0; what <= 11; what++) {
            CHECK.due("new: count(" + what + ")", hands.count(what), 0);
        }
        CHECK.due("new: house(0)", hands.house(0), -2);
        CHECK.due("new: dones()", hands.dones(), -2);
        CHECK.due("new: undo()", hands.undo(), -2);
        CHECK.due("new: back(0)", hands.back(0), -6);
        CHECK.due("new: write(0, 0, 0)", hands.write(0, 0, 0), -6);
    }

    private static void promise2() {
        SlateHands hands = new SlateHands();
        for (int i = 1; i <= 40; i++) {
            CHECK.due("feed " + i, hands.feed(0, 0, 0, 0, 0), 20 * i);
        }
        CHECK.due("feed 41", hands.feed(0, 0, 0, 0, 0), SlateHands.NONE);
        CHECK.due("none came", hands.count(10), 800);
        hands.end(781);
        CHECK.due("feed to 801", hands.feed(0, 0, 0, 0, 0), SlateHands.NONE);
        hands.end(780);
        CHECK.due("feed to 800", hands.feed(0, 0, 0, 0, 0), 800);

        // "port days 1 law 0 od" and "ds 4 ;": of each number the highest byte comes first.
        hands.end(0);
        hands.feed(0x706f7274, 0x20646179, 0x73203120, 0x6c617720, 0x30206f64);
        hands.feed(0x73203420, 0x3b202020, 0x20202020, 0x20202020, 0x20202020);
        CHECK.due("ods", hands.port(), -4);
        CHECK.due("ods", hands.fault(1), 18);
        hands.feed(0x706f7274, 0x20646179, 0x73203120, 0x6c617720, 0x30206f64);
        hands.feed(0x64732034, 0x203b2020, 0x20202020, 0x20202020, 0x20202020);
        CHECK.due("odds", hands.port(), 1);
        CHECK.due("4", hands.count(2), 4);
        hands.feed(0x706f7274, 0x20646179, 0x73203120, 0x6c617720, 0x30206f64);
        hands.end(18);
        hands.feed(0x6f646473, 0x20353b0a, 0x0a0a0a0a, 0x0a0a0a0a, 0x0a0a0a0a);
        CHECK.due("bytes behind end()", hands.port(), 1);
        CHECK.due("5", hands.count(2), 5);
    }

    private static void promise3() {
        SlateHands hands = new SlateHands();
        CHECK.due("end(0) of none", hands.end(0), 0);
        CHECK.due("end(1) of none", hands.end(1), SlateHands.NONE);
        hands.feed(1, 2, 3, 4, 5);
        CHECK.due("end(21)", hands.end(21), SlateHands.NONE);
        CHECK.due("end(-1)", hands.end(-1), SlateHands.NONE);
        CHECK.due("nothing happens", hands.count(10), 20);
        CHECK.due("end(20)", hands.end(20), 20);
        CHECK.due("end(7)", hands.end(7), 7);
        CHECK.due("bytes", hands.count(10), 7);
        CHECK.due("end(8) behind end(7)", hands.end(8), SlateHands.NONE);
    }

    private static void promise4() {
        SlateHands hands = new SlateHands();
        CHECK.due("an empty TAPE", hands.port(), 0);
        CHECK.due("LINES", Ports.told(hands, ALL), 7);
        CHECK.due("the TAPE is empty", hands.count(10), 0);
        CHECK.due("CARRIES told", hands.count(7), 1);
        hands.carry(0, 0, 1, 1);
        hands.row(2, 0, 1);
        CHECK.due("a FAULT", Ports.told(hands, PORT + "house high"), -4);
        CHECK.due("the TAPE is empty behind a FAULT", hands.count(10), 0);
        CHECK.due("all else stays: LINES", hands.count(9), 7);
        CHECK.due("all else stays: HOUSES", hands.count(3), 2);
        CHECK.due("all else stays: acts", hands.count(8), 1);
        CHECK.due("all else stays: SLOTS", hands.count(11), 1);
        hands.image(1);
        CHECK.due("another PORT", Ports.told(hands, "port days 2 law 3 odds 7;" + HOUSE), 2);
        CHECK.due("its days", hands.count(0), 2);
        CHECK.due("its LAW", hands.count(1), 3);
        CHECK.due("its odds", hands.count(2), 7);
        CHECK.due("its CARRIERS", hands.count(5), 0);
        CHECK.due("nothing done", hands.count(8), 0);
        CHECK.due("SLOTS stay", hands.count(11), 1);
        CHECK.due("IMAGES stay", hands.back(1), 0);
        CHECK.due("no LINES", Ports.told(hands, " \n "), 0);
        CHECK.due("there is none then", hands.dones(), -2);
        CHECK.due("no HOUSES then", hands.count(3), 0);
        for (int what = 0; what <= 9; what++) {
            CHECK.due("nothing then: count(" + what + ")", hands.count(what), 0);
        }
        for (int times = 0; times < 2; times++) {
            CHECK.due("told again", Ports.told(hands, ALL), 7);
            CHECK.due("CARRIES of the latest alone", hands.count(7), 1);
        }
    }

    private static void promise5() {
        SlateHands hands = new SlateHands();
        CHECK.due("fault(0) ahead of any", hands.fault(0), 0);
        CHECK.due("fault(1) ahead of any", hands.fault(1), SlateHands.NONE);
        Ports.told(hands, PORT + "house low 3;");
        CHECK.due("fault(0)", hands.fault(0), 1);
        CHECK.due("fault(1)", hands.fault(1), 31);
        CHECK.due("fault(2)", hands.fault(2), SlateHands.NONE);
        CHECK.due("fault(-1)", hands.fault(-1), SlateHands.NONE);
        hands.feed(0, 0, 0, 0, 0);
        hands.end(0);
        CHECK.due("fault(0), of the latest port() still", hands.fault(0), 1);
        Ports.told(hands, PORT);
        CHECK.due("fault(0) without", hands.fault(0), 0);
        CHECK.due("fault(1) without", hands.fault(1), SlateHands.NONE);
    }

    private static void tokens() {
        told("no blanks but where they must be", "port days 5law 2odds 1;house high 3;", 2);
        told("many blanks", "\n port  days\n\n5 law 2 odds 1 ; \n\n", 1);
        told("noughts ahead of a number", "port days 0000000000000000005 law 002 odds 00;", 1);
        fault("days5 is two TOKENS, dayslaw is one", "port dayslaw 5", 1, 5);
        fault("a huge number", "port days 4294967297 law 0 odds 0;", 2, 10);
        fault("a huger number", "port days 18446744073709551617 law 0 odds 0;", 2, 10);
        fault("a great letter", "Port days 5 law 2 odds 1;", 1, 0);
        fault("a tab", "port\tdays 5 law 2 odds 1;", 1, 4);
        fault("a carriage return", "port days 5 law 2 odds 1;\r", 1, 25);
        fault("the byte 0", PORT + "\0", 1, 25);
        fault("the byte 255", PORT + HOUSE + "\u00ff", 1, 38);
        fault("a sign within a word", PORT + "ho-use", 1, 25);
        fault("a sign behind a number", "port days -5", 1, 10);
    }

    private static void cannotStand() {
        fault("no port first", HOUSE, 1, 0);
        fault("a ; alone", ";", 1, 0);
        fault("a number first", "5", 1, 0);
        fault("a second port", PORT + PORT, 1, 25);
        fault("an unknown word", PORT + "ship high 3;", 1, 25);
        fault("a word but for its first letter", PORT + "mouse high 3;", 1, 25);
        fault("a word but for its last letter", PORT + "housa high 3;", 1, 25);
        fault("a word too long", PORT + "houses high 3;", 1, 25);
        fault("a word too long by the last letter of all", PORT + "housez high 3;", 1, 25);
        fault("a word too long by the first letter of all", PORT + "ahouse high 3;", 1, 25);
        fault("a word too short", PORT + "hous high 3;", 1, 25);
        fault("a ; more", PORT + ";", 1, 25);
        fault("no ;", PORT + "house high 3 house", 1, 38);
        fault("a number more", PORT + "house high 3 3;", 1, 38);
        fault("no number", PORT + "house high;", 1, 35);
        fault("another word", "port law 5", 1, 5);
        fault("a word in a way", TWO_HOUSES + "way 0 to 1;", 1, 57);
        fault("no word of a slate", TWO_HOUSES + "slate at 0;", 1, 61);
        fault("behind a word", TWO_HOUSES + "slate at 0 word 1 2;", 1, 69);
        fault("no to", TWO_HOUSES + CARRIER + SLATE + "carry 0 0 1", 1, 101);
        fault("no at", TWO_HOUSES + CARRIER + SLATE + "carry 0 0 to 1 on 0;", 1, 106);
        fault("the end", "port", 1, 4);
        fault("the end behind blanks", "port days \n\n ", 1, 13);
        fault("the end ahead of a ;", PORT + "house high 3", 1, 37);
        fault("the end of a way", TWO_HOUSES + "way 0", 1, 56);
        fault("the end of a word", TWO_HOUSES + "slate at 0 word 1 word", 1, 73);
    }

    private static void outOfBounds() {
        fault("days 0", "port days 0 law", 2, 10);
        told("days 1", "port days 1 law 0 odds 0;", 1);
        told("days 12, LAW 3, odds 10", "port days 12 law 3 odds 10;", 1);
        fault("days 13", "port days 13 law 9", 2, 10);
        fault("law 4", "port days 12 law 4 odds 11", 2, 17);
        fault("odds 11", "port days 12 law 3 odds 11", 2, 24);
        told("high 20", PORT + "house high 20;house high 0;", 3);
        fault("high 21", PORT + "house high 21;", 2, 36);
        fault("a way from a HOUSE told behind", PORT + HOUSE + "way 1 0;" + HOUSE, 2, 42);
        fault("a way to a HOUSE told behind", PORT + HOUSE + "way 0 1;" + HOUSE, 2, 44);
        fault("a way to the same HOUSE", TWO_HOUSES + "way 1 1;", 2, 57);
        told("a way twice", TWO_HOUSES + WAY + WAY + "way 1 0;", 6);
        fault("a carrier without a HOUSE", PORT + "carrier at 0 strong 1;", 2, 36);
        told("strong 0 and 99", PORT + HOUSE + "carrier at 0 strong 0;carrier at 0 strong 99;", 4);
        fault("strong 100", PORT + HOUSE + "carrier at 0 strong 100;", 2, 58);
        fault("a slate of no HOUSE", PORT + HOUSE + "slate at 1 word 1;", 2, 47);
        fault("a word of 0", PORT + HOUSE + "slate at 0 word 0;", 2, 54);
        told("words of 1 and 30", PORT + HOUSE + "slate at 0 word 1 word 30;", 3);
        fault("a word of 31", PORT + HOUSE + "slate at 0 word 1 word 31;", 2, 61);
        fault("a carry of no CARRIER", TWO_HOUSES + SLATE + "carry 0 0 to 1 at 0;", 2, 75);
        fault("a carry of no SLATE", TWO_HOUSES + CARRIER + "carry 0 0 to 1 at 0;", 2, 81);
        fault("a carry to no HOUSE", TWO_HOUSES + CARRIER + SLATE + "carry 0 0 to 2 at 0;", 2, 104);
        told("a carry at 11, beyond the last DAY", TWO_HOUSES + CARRIER + SLATE + "carry 0 0 to 1 at 11;", 6);
        told("a carry to where it is", TWO_HOUSES + CARRIER + SLATE + "carry 0 0 to 0 at 0;", 6);
        fault("a carry at 12", TWO_HOUSES + CARRIER + SLATE + "carry 0 0 to 1 at 12;", 2, 109);
    }

    private static void tooMany() {
        many("house", PORT, HOUSE, 8);
        many("way", TWO_HOUSES, WAY, 12);
        many("carrier", PORT + HOUSE, CARRIER, 5);
        many("slate", PORT + HOUSE, SLATE, 3);
        many("carry", TWO_HOUSES + CARRIER + SLATE, CARRY, 12);
        String six = PORT + HOUSE + "slate at 0" + " word 2".repeat(6);
        told("6 WORDS", six + ";", 3);
        fault("7 WORDS", six + " word 99", 3, six.length() + 1);
        fault("a 9th house, whatever comes behind", PORT + HOUSE.repeat(8) + "house low", 3, 25 + 8 * 13);
        fault("an earlier FAULT", PORT + "house high 21;" + HOUSE.repeat(8), 2, 36);
    }

    private static void many(String what, String ahead, String line, int most) {
        int lines = (int) ahead.chars().filter(sign -> sign == ';').count();
        String all = ahead + line.repeat(most);
        told(most + " times " + what, all, lines + most);
        fault(most + 1 + " times " + what, all + line, 3, all.length());
    }

    private static void told(String name, String text, int lines) {
        SlateHands hands = new SlateHands();
        CHECK.due(name + ": port()", Ports.told(hands, text), lines);
        CHECK.due(name + ": fault(0)", hands.fault(0), 0);
        CHECK.due(name + ": fault(1)", hands.fault(1), SlateHands.NONE);
    }

    private static void fault(String name, String text, int what, int place) {
        SlateHands hands = new SlateHands();
        CHECK.due(name + ": port()", Ports.told(hands, text), -4);
        CHECK.due(name + ": fault(0)", hands.fault(0), what);
        CHECK.due(name + ": fault(1)", hands.fault(1), place);
        CHECK.due(name + ": LINES", hands.count(9), 0);
    }
}
