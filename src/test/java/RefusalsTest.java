import java.util.ArrayList;
import java.util.List;

/**
 * Promises 6 to 61, by one number of a call after another: the last value that is still taken, the
 * first that is not, and the farthest, on both sides; and that what is refused changes nothing.
 */
public final class RefusalsTest {
    // Each name, the kinds of its numbers (see least() and most()), a call that is answered in
    // every PORT below, and the answer that refuses; words have refusals of their own.
    private static final String[] TABLE = {
        "house | H | 0 | -2",
        "carrier | C B | 0 0 | -2",
        "word | S | 0 0 | -2",
        "doors | H | 0 | -2",
        "far | H H | 0 1 | -2",
        "climb | H H | 0 1 | -2",
        "at | C D | 0 0 | -2",
        "lies | S D | 0 0 | -2",
        "left | S D | 0 0 | -2",
        "weight | S D | 0 0 | -2",
        "knows | H S D | 0 0 0 | -2",
        "heard | S D | 0 0 | -2",
        "full | S D | 0 0 | -2",
        "when | H S | 0 0 | -2",
        "done | K | 0 | -2",
        "why | K | 0 | -2",
        "load | K | 0 | -2",
        "idle | A | 0 | -2",
        "moves | S | 0 | -2",
        "trips | C | 0 | -2",
        "toil | C | 0 | -2",
        "rubbed | S | 0 | -2",
        "brings | C S H | 0 0 0 | -2",
        "saves | C S H | 0 0 0 | -2",
        "can | C S | 0 0 | -2",
        "needs | S H | 0 0 | -2",
        "porter | S H | 0 0 | -2",
        "tells | C S N | 0 0 0 | -2",
        "cart | X S H | 1 0 0 | -2",
        "four | S H | 0 0 | -2",
        "share | S C B | 0 0 0 | -2",
        "block | S | 0 | -2",
        "by | S L | 0 0 | -2",
        "law | S | 0 | -2",
        "firsts | R S | 0 0 | -2",
        "ask | R S | 0 0 | -2",
        "leaves | R S | 0 0 | -2",
        "laws | R S | 0 0 | -2",
        "beside | S | 0 | -2",
        "rests | S H H | 0 0 1 | -2",
        "gets | S H H B B | 0 0 1 0 0 | -1000",
        "chance | S H B | 0 0 0 | -2",
        "mean | S B | 0 0 | -2",
        "carry | C S H A | 0 0 0 0 | -2",
        "rub | S W | 0 0 | -2",
        "drawn | E B | 5 0 | -2",
        "luck | E M S H | 5 1 0 0 | -2",
        "rate | C G | 0 7 | -2",
        "image | I | 0 | -2",
        "back | I | 0 | -2",
    };
    private static final String[] CHANGE_NOTHING = {"house(0)", "carrier(0, 1)", "left(0, 0)", "dones()", "count(0)",
        "count(3)", "count(7)", "count(8)", "count(9)", "count(11)", "firsts(0, 0)", "firsts(3, 0)", "undo()"};

    private static final Check CHECK = new Check();

    private RefusalsTest() {
    }

    public static void main(String[] args) {
        String[] ports = {FullPort.of(12), FullPort.of(9), FullPort.of(8), FullPort.of(1), FullPort.ONE_EACH};
        for (String text : ports) {
            for (String line : TABLE) {
                String[] parts = line.split(" \\| ");
                bounds(text, parts[0], parts[1].split(" "), parts[2].split(" "), Long.parseLong(parts[3]));
            }
        }
        noPort();
        portAlone();
        CHECK.finish();
    }

    /** A PORT with an act, IMAGES of it and rows in all SLOTS. */
    private static SlateHands made(String text, boolean acts) {
        SlateHands hands = Ports.of(text);
        if (acts) {
            hands.rub(0, 0);
        }
        for (int k = 0; k < 3; k++) {
            hands.image(k);
        }
        for (int slot = 0; slot < 4; slot++) {
            hands.row(slot, slot, 2);
        }
        return hands;
    }

    private static void bounds(String text, String name, String[] kinds, String[] base, long refusal) {
        for (int i = 0; i < kinds.length; i++) {
            SlateHands hands = made(text, !name.equals("rate"));
            List<Long> before = answers(made(text, !name.equals("rate")));
            long least = least(kinds[i].charAt(0));
            long most = most(hands, kinds[i].charAt(0));
            for (long wrong : new long[] {least - 1, most + 1, Integer.MIN_VALUE, Integer.MAX_VALUE}) {
                refused(hands, name, numbers(base, i, wrong), refusal);
            }
            CHECK.due("nothing is changed by " + name + " with a wrong number " + i,
                    answers(hands).equals(before) ? 1 : 0, 1);
            for (long right : new long[] {least, most}) {
                long[] numbers = numbers(base, i, right);
                if (isOneTwice(kinds, numbers)) {
                    refused(made(text, true), name, numbers, name.equals("far") || name.equals("climb") ? 0 : refusal);
                } else {
                    taken(made(text, !name.equals("rate")), name, numbers, refusal);
                }
            }
        }
    }

    private static void refused(SlateHands hands, String name, long[] numbers, long refusal) {
        CHECK.due(told(name, numbers), Calls.asked(hands, name, numbers), refusal);
    }

    private static void taken(SlateHands hands, String name, long[] numbers, long refusal) {
        boolean isTaken = Calls.asked(hands, name, numbers) != refusal;
        CHECK.due(told(name, numbers) + " is taken (1)", isTaken ? 1 : 0, 1);
    }

    private static List<Long> answers(SlateHands hands) {
        List<Long> all = new ArrayList<>();
        for (String call : CHANGE_NOTHING) {
            all.add(Calls.asked(hands, call));
        }
        return all;
    }

    private static String told(String name, long[] numbers) {
        StringBuilder text = new StringBuilder(name).append('(');
        for (int i = 0; i < numbers.length; i++) {
            text.append(i > 0 ? ", " : "").append(numbers[i]);
        }
        return text.append(')').toString();
    }

    private static long[] numbers(String[] base, int i, long instead) {
        long[] numbers = new long[base.length];
        for (int j = 0; j < base.length; j++) {
            numbers[j] = i == j ? instead : Long.parseLong(base[j]);
        }
        return numbers;
    }

    private static boolean isOneTwice(String[] kinds, long[] numbers) {
        for (int i = 1; i < kinds.length; i++) {
            if (kinds[i].equals("H") && kinds[i - 1].equals("H") && numbers[i] == numbers[i - 1]) {
                return true;
            }
        }
        return false;
    }

    private static long least(char kind) {
        return kind == 'X' || kind == 'M' ? 1 : 0;
    }

    private static long most(SlateHands hands, char kind) {
        switch (kind) {
            case 'H': return hands.count(3) - 1;
            case 'C': return hands.count(5) - 1;
            case 'S': return hands.count(6) - 1;
            case 'K': return hands.count(7) - 1;
            case 'D': return hands.count(0);
            case 'A': return hands.count(0) - 1;
            case 'X': return (1 << hands.count(5)) - 1;
            case 'B': return 1;
            case 'L': case 'R': return 3;
            case 'I': return 2;
            case 'N': return 7;
            case 'M': return 20;
            case 'G': return 99;
            case 'E': return 2_000_000_000;
            // SLATE 0 has one WORD in all PORTS here.
            default: return 0;
        }
    }

    /** Promise 1, and a PORT that is gone: each call, with what would be the first of all, is refused. */
    private static void noPort() {
        SlateHands fresh = new SlateHands();
        SlateHands faulty = new SlateHands();
        Ports.told(faulty, FullPort.of(8) + "house high 0;");
        SlateHands gone = made(FullPort.of(8), true);
        Ports.told(gone, "");
        SlateHands back = new SlateHands();
        back.image(1);
        Ports.told(back, FullPort.of(8));
        back.back(1);
        for (SlateHands hands : new SlateHands[] {fresh, faulty, gone, back}) {
            for (String line : TABLE) {
                String[] parts = line.split(" \\| ");
                boolean isOfPort = !parts[0].equals("image") && !parts[0].equals("back");
                if (isOfPort) {
                    refused(hands, parts[0], numbers(parts[2].split(" "), -1, 0), Long.parseLong(parts[3]));
                }
            }
            Calls.due(CHECK, "no PORT", hands, "dones() = -2", "gossip() = -2", "famous() = -2", "undo() = -2",
                    "anew() = -2", "word(0, -1) = -2", "carry(0, 0, 0, -1) = -2", "lies(-1, -1) = -2");
            for (int what = 0; what <= 10; what++) {
                Calls.due(CHECK, "no PORT", hands, "count(" + what + ") = 0");
            }
        }
        Calls.due(CHECK, "new", fresh, "fault(0) = 0", "fault(1) = NONE", "count(11) = 0", "back(0) = -6",
                "back(1) = -6", "back(2) = -6", "write(0, 0, 0) = -6", "paste(0, 0, 0, 0, 0) = -6", "end(0) = 0",
                "end(1) = NONE");
    }

    /** A PORT of its first LINE alone has DAYS, and nothing else. */
    private static void portAlone() {
        SlateHands hands = made("port days 1 law 3 odds 10;", false);
        for (String line : TABLE) {
            String[] parts = line.split(" \\| ");
            if (parts[1].matches(".*[HCSK].*")) {
                refused(hands, parts[0], numbers(parts[2].split(" "), -1, 0), Long.parseLong(parts[3]));
            }
        }
        Calls.due(CHECK, "port alone", hands, "count(9) = 1", "dones() = 0", "idle(0) = 0", "idle(1) = -2",
                "gossip() = NONE", "famous() = NONE", "drawn(0, 0) = 1", "drawn(0, 1) = 0", "undo() = -5", "anew() = 0",
                "back(2) = 0");
    }
}
