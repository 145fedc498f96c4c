import java.lang.reflect.InvocationTargetException;
import java.lang.reflect.Method;
import java.lang.reflect.Modifier;
import java.util.ArrayList;
import java.util.HashMap;
import java.util.List;
import java.util.Map;
import java.util.Random;
import java.util.TreeMap;

/** Holds runs of calls, made by chance from fixed seeds, against the model of the document. */
public final class ModelTest {
    // Runs and the first seed can be told, for a longer look.
    private static final int RUNS = 700;
    private static final int CALLS = 220;

    /** What each number of a call is; see number(). */
    private static final Map<String, String> KINDS = kinds(
            "feed V V V V V", "end T", "port", "fault B", "house H", "carrier C B", "word S W", "doors H",
            "far H H", "climb H H", "at C D", "lies S D", "left S D", "weight S D", "knows H S D", "heard S D",
            "full S D", "when H S", "done K", "dones", "why K", "load K", "idle D", "moves S", "trips C", "toil C",
            "rubbed S", "gossip", "famous", "brings C S H", "saves C S H", "can C S", "needs S H", "porter S H",
            "tells C S N", "cart X S H", "four S H", "share S C B", "block S", "by S L", "law S", "firsts R S",
            "ask R S", "leaves R S", "laws R S", "beside S", "rests S H H", "gets S H H B B", "chance S H B",
            "mean S B", "carry C S H D", "rub S W", "undo", "anew", "drawn E B", "luck E M S H", "rate C G",
            "count A", "image I", "back I", "row R L Z", "write R Z V", "paste R Z R Z Z");

    private final Random random;
    private final Check check;
    private final Map<String, Integer> told;
    private SlateHands hands;
    private Model model;
    private String story = "";

    private ModelTest(long seed, Check check, Map<String, Integer> told) {
        this.random = new Random(seed);
        this.check = check;
        this.told = told;
    }

    public static void main(String[] args) throws ReflectiveOperationException {
        Check check = new Check();
        Map<String, Integer> told = new TreeMap<>();
        int runs = args.length > 0 ? Integer.parseInt(args[0]) : RUNS;
        long from = args.length > 1 ? Long.parseLong(args[1]) : 1;
        for (int run = 0; run < runs; run++) {
            new ModelTest(from + run, check, told).run("seed " + (from + run) + ": ");
        }
        for (Method method : SlateHands.class.getDeclaredMethods()) {
            if (Modifier.isPublic(method.getModifiers())) {
                // Each method must have told something beside its refusals.
                check.due("answers of " + method.getName() + " above -1", told.getOrDefault(method.getName(), 0) > 0 ? 1 : 0, 1);
            }
        }
        check.finish();
    }

    private static Map<String, String> kinds(String... all) {
        Map<String, String> kinds = new HashMap<>();
        for (String one : all) {
            int blank = one.indexOf(' ');
            kinds.put(blank < 0 ? one : one.substring(0, blank), blank < 0 ? "" : one.substring(blank + 1));
        }
        return kinds;
    }

    private void run(String name) throws ReflectiveOperationException {
        hands = new SlateHands();
        model = new Model();
        story = name;
        List<Method> methods = new ArrayList<>();
        for (Method method : SlateHands.class.getDeclaredMethods()) {
            if (Modifier.isPublic(method.getModifiers())) {
                methods.add(method);
            }
        }
        methods.sort((a, b) -> a.getName().compareTo(b.getName()));
        if (random.nextInt(8) > 0) {
            tellPort();
        }
        for (int i = 0; i < CALLS; i++) {
            int chance = random.nextInt(CALLS);
            if (chance == 0) {
                tellPort();
            } else if (chance < 6) {
                tellRow();
            } else {
                Method method = methods.get(random.nextInt(methods.size()));
                boolean ends = List.of("port", "anew", "back", "rate", "feed", "undo").contains(method.getName());
                // What takes much away comes seldom, so that the runs get somewhere.
                if (!ends || random.nextInt(6) == 0) {
                    call(method, numbers(KINDS.get(method.getName())));
                }
            }
        }
    }

    private void call(Method method, long[] numbers) throws ReflectiveOperationException {
        Class<?>[] types = method.getParameterTypes();
        Object[] boxed = new Object[numbers.length];
        StringBuilder text = new StringBuilder(method.getName()).append('(');
        for (int i = 0; i < numbers.length; i++) {
            if (types[i] == long.class) {
                boxed[i] = numbers[i];
            } else {
                boxed[i] = (int) numbers[i];
            }
            text.append(i > 0 ? ", " : "").append(boxed[i]);
        }
        Method due = Model.class.getDeclaredMethod(method.getName(), types);
        long want = ((Number) due.invoke(model, boxed)).longValue();
        long got;
        try {
            got = ((Number) method.invoke(hands, boxed)).longValue();
        } catch (InvocationTargetException thrown) {
            got = Long.MIN_VALUE;
            System.out.println(thrown.getCause());
        }
        if (want >= 0) {
            told.merge(method.getName(), 1, Integer::sum);
        }
        check.due(story + text + ")", got, want);
    }

    private void call(String name, long... numbers) throws ReflectiveOperationException {
        for (Method method : SlateHands.class.getDeclaredMethods()) {
            if (method.getName().equals(name)) {
                call(method, numbers);
            }
        }
    }

    private void tellPort() throws ReflectiveOperationException {
        String text = new PortMaker(random).text();
        story = story.substring(0, story.indexOf(':') + 2) + "<" + text + "> ";
        call("end", 0);
        for (int[] five : Ports.fives(text)) {
            call("feed", five[0], five[1], five[2], five[3], five[4]);
        }
        call("end", text.length());
        call("port");
        call("fault", 0);
        call("fault", 1);
    }

    /** A row that was seen, or could have been, as a slate lay. */
    private void tellRow() throws ReflectiveOperationException {
        ModelPort port = model.told();
        if (port == null || port.slates.isEmpty()) {
            return;
        }
        int slot = random.nextInt(4);
        int slate = random.nextInt(port.slates.size());
        int house = random.nextInt(port.high.size());
        int pairs = random.nextInt(3);
        ModelCourse course = port.course().lyingFirst(slate, random.nextBoolean() ? house : port.slates.get(slate)).run();
        call("row", slot, random.nextInt(4), 2 * pairs);
        for (int i = 0; i < pairs; i++) {
            int day = random.nextInt(port.days + 1);
            call("write", slot, 2 * i, day);
            call("write", slot, 2 * i + 1, course.lies.get(day).get(slate));
        }
        for (String name : List.of("firsts", "ask", "leaves", "laws")) {
            call(name, slot, slate);
        }
    }

    private long[] numbers(String kinds) {
        if (kinds.isEmpty()) {
            return new long[0];
        }
        String[] each = kinds.split(" ");
        long[] numbers = new long[each.length];
        for (int i = 0; i < each.length; i++) {
            numbers[i] = number(each[i].charAt(0));
        }
        return numbers;
    }

    private long number(char kind) {
        ModelPort port = model.told() == null ? new ModelPort() : model.told();
        switch (kind) {
            case 'H': return about(port.high.size());
            case 'C': return about(port.carriers.size());
            case 'S': return about(port.slates.size());
            case 'D': return about(port.days + 1);
            case 'K': return about(port.carries.size() + port.acts.size());
            case 'X': return about(1 << port.carriers.size());
            case 'W': return about(4);
            case 'B': return about(2);
            case 'L': case 'R': return about(4);
            case 'I': return about(3);
            case 'N': return about(8);
            case 'A': return about(12);
            case 'M': return 1 + about(20);
            case 'G': return about(100);
            case 'Z': return random.nextInt(4) == 0 ? about(61) : about(7);
            case 'T': return random.nextBoolean() ? about(801) : about(20);
            case 'E': return random.nextInt(9) == 0 ? 2000000000 + about(2) : random.nextInt(2000000000);
            default: return random.nextInt(4) == 0 ? random.nextLong() : about(13);
        }
    }

    /** Mostly 0 .. size - 1, sometimes just beyond, seldom far. */
    private long about(int size) {
        if (random.nextInt(25) == 0) {
            int[] far = {-1, size, Integer.MAX_VALUE, Integer.MIN_VALUE};
            return far[random.nextInt(random.nextInt(3) == 0 ? 4 : 2)];
        }
        return size > 0 ? random.nextInt(size) : 0;
    }
}
