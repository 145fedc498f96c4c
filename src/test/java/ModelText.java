import java.util.ArrayList;
import java.util.List;
import java.util.Map;
import java.util.regex.Matcher;
import java.util.regex.Pattern;

/** The TAPE and its reading: each LINE is held against a pattern of words and bounds. */
final class ModelText {
    private static final Map<String, String> PATTERNS = Map.of(
            "port", "port days 1-12 law 0-3 odds 0-10 ;",
            "house", "house high 0-20 ;",
            "way", "way house house ;",
            "carrier", "carrier at house strong 0-99 ;",
            "slate", "slate at house word 1-30 more ;",
            "carry", "carry carrier slate to house at 0-11 ;");
    private static final Map<String, Integer> MOST = Map.of(
            "house", 8, "way", 12, "carrier", 5, "slate", 3, "carry", 12);

    record Token(String text, int place) {
    }

    final List<Integer> tape = new ArrayList<>();
    int fault;
    int place = Model.NONE;

    int feed(int[] numbers) {
        if (tape.size() + 20 > 800) {
            return Model.NONE;
        }
        for (int number : numbers) {
            for (int i = 3; i >= 0; i--) {
                tape.add(number >>> 8 * i & 255);
            }
        }
        return tape.size();
    }

    int end(int n) {
        if (n < 0 || n > tape.size()) {
            return Model.NONE;
        }
        tape.subList(n, tape.size()).clear();
        return n;
    }

    /** The PORT told, null with a FAULT; without LINES it is none. */
    ModelPort read() {
        StringBuilder all = new StringBuilder();
        for (int sign : tape) {
            all.append((char) sign);
        }
        tape.clear();
        fault = 0;
        place = Model.NONE;
        ModelPort port = new ModelPort();
        List<Token> tokens = tokens(all.toString());
        int next = 0;
        while (fault == 0 && next < tokens.size() - 1) {
            next = line(port, tokens, next);
        }
        return fault == 0 ? port : null;
    }

    /** The last TOKEN is the end, an empty one. */
    private static List<Token> tokens(String all) {
        List<Token> tokens = new ArrayList<>();
        Matcher matcher = Pattern.compile("[a-z]+|[0-9]+|[^ \n]", Pattern.DOTALL).matcher(all);
        while (matcher.find()) {
            tokens.add(new Token(matcher.group(), matcher.start()));
        }
        tokens.add(new Token("", all.length()));
        return tokens;
    }

    private int line(ModelPort port, List<Token> tokens, int from) {
        String word = tokens.get(from).text();
        boolean stands = PATTERNS.containsKey(word) && word.equals("port") == (port.lines == 0);
        if (!stands) {
            return blame(1, tokens.get(from));
        }
        if (MOST.containsKey(word) && port.count(word) == MOST.get(word)) {
            return blame(3, tokens.get(from));
        }
        List<Integer> numbers = new ArrayList<>();
        List<String> pattern = new ArrayList<>(List.of(PATTERNS.get(word).split(" ")));
        int i = from;
        // A pattern grows by a WORD where the text does.
        for (int p = 0; p < pattern.size() && fault == 0; p++) {
            if (pattern.get(p).equals("more")) {
                boolean grows = tokens.get(i).text().equals("word");
                pattern.remove(p);
                if (grows && numbers.size() == 7) {
                    return blame(3, tokens.get(i));
                }
                if (grows) {
                    pattern.addAll(p, List.of("word", "1-30", "more"));
                }
            }
            match(port, pattern.get(p), p, tokens.get(i), numbers);
            i++;
        }
        if (fault == 0) {
            port.lines++;
            port.tell(word, numbers);
        }
        return i;
    }

    private void match(ModelPort port, String due, int p, Token token, List<Integer> numbers) {
        int least = 0;
        int most;
        if (due.contains("-")) {
            least = Integer.parseInt(due.split("-")[0]);
            most = Integer.parseInt(due.split("-")[1]);
        } else if (p > 0 && (due.equals("house") || due.equals("carrier") || due.equals("slate"))) {
            most = port.count(due) - 1;
        } else {
            if (!token.text().equals(due)) {
                blame(1, token);
            }
            return;
        }
        if (!token.text().matches("[0-9]+")) {
            blame(1, token);
            return;
        }
        String digits = token.text().replaceFirst("^0+(?=.)", "");
        int number = digits.length() > 5 ? 99999 : Integer.parseInt(digits);
        boolean twice = p == 2 && due.equals("house") && numbers.size() == 1 && numbers.get(0) == number;
        if (number < least || number > most || twice) {
            blame(2, token);
        }
        numbers.add(number);
    }

    private int blame(int what, Token token) {
        fault = what;
        place = token.place();
        return 0;
    }
}
