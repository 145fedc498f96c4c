import java.math.BigInteger;
import java.util.ArrayList;
import java.util.HashMap;
import java.util.HashSet;
import java.util.List;
import java.util.Map;
import java.util.Set;
import java.util.TreeSet;

/**
 * The document told once more, from its words and without a look at the program: slow, made of
 * Java's library, every answer worked out anew. ModelTest compares the two.
 */
final class Model {
    static final int NONE = -1;

    private final ModelText text = new ModelText();
    private ModelPort port;
    private final Map<Integer, ModelPort> images = new HashMap<>();
    private final ModelRows rows = new ModelRows();
    // Dear answers of the PORT as it is now.
    private final Map<String, Object> known = new HashMap<>();

    ModelPort told() {
        return port;
    }

    // ---- the text ----

    int feed(int a, int b, int c, int d, int e) {
        return text.feed(new int[] {a, b, c, d, e});
    }

    int end(int n) {
        return text.end(n);
    }

    int port() {
        ModelPort read = text.read();
        if (read == null) {
            return -4;
        }
        port = read.lines == 0 ? null : read;
        known.clear();
        return read.lines;
    }

    int fault(int what) {
        if (what == 0) {
            return text.fault;
        }
        return what == 1 ? text.place : NONE;
    }

    // ---- what there is ----

    private boolean houses(int... hs) {
        boolean are = port != null;
        for (int h : hs) {
            are = are && h >= 0 && h < port.high.size();
        }
        return are;
    }

    private boolean carriers(int c) {
        return port != null && c >= 0 && c < port.carriers.size();
    }

    private boolean slates(int s) {
        return port != null && s >= 0 && s < port.slates.size();
    }

    private boolean days(int d) {
        return port != null && d >= 0 && d <= port.days;
    }

    private boolean ahead(int d) {
        return port != null && d >= 0 && d < port.days;
    }

    private boolean carries(int k) {
        return port != null && k >= 0 && k < port.allCarries().size();
    }

    private static boolean oneOrNone(int what) {
        return what == 0 || what == 1;
    }

    private ModelCourse now() {
        return (ModelCourse) known.computeIfAbsent("now", k -> port.course().run());
    }

    private ModelAlone alone(int slate, int strong) {
        return (ModelAlone) known.computeIfAbsent("alone " + slate + " " + strong,
                k -> new ModelAlone(port, slate, strong));
    }

    static int bits(Set<Integer> set) {
        int bits = 0;
        for (int i : set) {
            bits |= 1 << i;
        }
        return bits;
    }

    // ---- the PORT ----

    int house(int h) {
        return houses(h) ? port.high.get(h) : -2;
    }

    int carrier(int c, int what) {
        return carriers(c) && oneOrNone(what) ? port.carriers.get(c)[what] : -2;
    }

    int word(int s, int i) {
        if (!slates(s)) {
            return -2;
        }
        return i >= 0 && i < port.words.get(s).size() ? port.words.get(s).get(i) : NONE;
    }

    int doors(int h) {
        return houses(h) ? bits(port.doors(h, NONE)) : -2;
    }

    int far(int h, int other) {
        return houses(h, other) ? port.shortest(h, other, (from, to) -> 1) : -2;
    }

    int climb(int h, int other) {
        return houses(h, other) ? port.shortest(h, other, port::climb) : -2;
    }

    // ---- DAY by DAY ----

    int at(int c, int d) {
        return carriers(c) && days(d) ? now().at.get(d).get(c) : -2;
    }

    int lies(int s, int d) {
        return slates(s) && days(d) ? now().lies.get(d).get(s) : -2;
    }

    int left(int s, int d) {
        return slates(s) && days(d) ? bits(now().left.get(d).get(s)) : -2;
    }

    int weight(int s, int d) {
        return slates(s) && days(d) ? port.heavy(s, now().left.get(d).get(s)) : -2;
    }

    int knows(int h, int s, int d) {
        return houses(h) && slates(s) && days(d) ? bits(now().known(d, h, s)) : -2;
    }

    int heard(int s, int d) {
        return slates(s) && days(d) ? bits(now().heard(d, s)) : -2;
    }

    int full(int s, int d) {
        if (!slates(s) || !days(d)) {
            return -2;
        }
        Set<Integer> full = new TreeSet<>();
        for (int h = 0; h < port.high.size(); h++) {
            if (now().known(d, h, s).size() == port.words.get(s).size()) {
                full.add(h);
            }
        }
        return bits(full);
    }

    int when(int h, int s) {
        if (!houses(h) || !slates(s)) {
            return -2;
        }
        int d = 0;
        while (d <= port.days && now().known(d, h, s).isEmpty()) {
            d++;
        }
        return d <= port.days ? d : NONE;
    }

    // ---- CARRIES ----

    int done(int k) {
        return carries(k) ? (now().why.get(k) == 0 ? 1 : 0) : -2;
    }

    int dones() {
        if (port == null) {
            return -2;
        }
        int bits = 0;
        for (int k = 0; k < now().why.size(); k++) {
            bits += now().why.get(k) == 0 ? 1 << k : 0;
        }
        return bits;
    }

    int why(int k) {
        return carries(k) ? now().why.get(k) : -2;
    }

    int load(int k) {
        return carries(k) ? now().load.get(k) : -2;
    }

    int idle(int d) {
        if (!ahead(d)) {
            return -2;
        }
        int idle = 0;
        for (int c = 0; c < port.carriers.size(); c++) {
            boolean carried = false;
            for (int k = 0; k < now().why.size(); k++) {
                ModelPort.Carry carry = port.allCarries().get(k);
                carried |= now().why.get(k) == 0 && carry.carrier() == c && carry.day() == d;
            }
            idle |= carried ? 0 : 1 << c;
        }
        return idle;
    }

    int moves(int s) {
        if (!slates(s)) {
            return -2;
        }
        int moves = 0;
        for (int k = 0; k < now().why.size(); k++) {
            moves += now().why.get(k) == 0 && port.allCarries().get(k).slate() == s ? 1 : 0;
        }
        return moves;
    }

    int trips(int c) {
        if (!carriers(c)) {
            return -2;
        }
        int trips = 0;
        for (int k = 0; k < now().why.size(); k++) {
            trips += now().why.get(k) == 0 && port.allCarries().get(k).carrier() == c ? 1 : 0;
        }
        return trips;
    }

    int toil(int c) {
        if (!carriers(c)) {
            return -2;
        }
        int toil = 0;
        for (int k = 0; k < now().why.size(); k++) {
            toil += now().why.get(k) == 0 && port.allCarries().get(k).carrier() == c ? now().load.get(k) : 0;
        }
        return toil;
    }

    // ---- on the last DAY ----

    int rubbed(int s) {
        return slates(s) ? port.words.get(s).size() - now().left.get(port.days).get(s).size() : -2;
    }

    private int last(int h, int s) {
        return now().known(port.days, h, s).size();
    }

    int gossip() {
        if (port == null) {
            return -2;
        }
        int best = NONE;
        int most = 0;
        for (int h = 0; h < port.high.size(); h++) {
            int knows = 0;
            for (int s = 0; s < port.slates.size(); s++) {
                knows += last(h, s);
            }
            if (best == NONE || knows > most) {
                best = h;
                most = knows;
            }
        }
        return best;
    }

    int famous() {
        if (port == null) {
            return -2;
        }
        int best = NONE;
        for (int s = 0; s < port.slates.size(); s++) {
            if (best == NONE || now().heard(port.days, s).size() > now().heard(port.days, best).size()) {
                best = s;
            }
        }
        return best;
    }

    int beside(int s) {
        if (!slates(s)) {
            return -2;
        }
        int best = NONE;
        for (int h = 0; h < port.high.size(); h++) {
            if (h != port.slates.get(s) && last(h, s) > 0 && (best == NONE || last(h, s) > last(best, s))) {
                best = h;
            }
        }
        return best;
    }

    // ---- ALONE and CARTS ----

    private int strong(int set) {
        int strong = 0;
        for (int c = 0; c < port.carriers.size(); c++) {
            strong += (set >> c & 1) * port.carriers.get(c)[1];
        }
        return strong;
    }

    private int sets() {
        return 1 << port.carriers.size();
    }

    int brings(int c, int s, int h) {
        return carriers(c) && slates(s) && houses(h) ? alone(s, strong(1 << c)).days.getOrDefault(h, NONE) : -2;
    }

    int saves(int c, int s, int h) {
        return carriers(c) && slates(s) && houses(h) ? alone(s, strong(1 << c)).saved.getOrDefault(h, NONE) : -2;
    }

    int can(int c, int s) {
        return carriers(c) && slates(s) ? bits(alone(s, strong(1 << c)).days.keySet()) : -2;
    }

    int needs(int s, int h) {
        if (!slates(s) || !houses(h)) {
            return -2;
        }
        if (far(port.slates.get(s), h) == NONE) {
            return NONE;
        }
        int strong = 0;
        while (strong <= 999 && !alone(s, strong).days.containsKey(h)) {
            strong++;
        }
        return strong <= 999 ? strong : NONE;
    }

    int porter(int s, int h) {
        if (!slates(s) || !houses(h)) {
            return -2;
        }
        int best = NONE;
        for (int c = 0; c < port.carriers.size(); c++) {
            if (brings(c, s, h) != NONE && (best == NONE || brings(c, s, h) < brings(best, s, h))) {
                best = c;
            }
        }
        return best;
    }

    int tells(int c, int s, int n) {
        return carriers(c) && slates(s) && n >= 0 && n <= 7 ? alone(s, strong(1 << c)).told(n) : -2;
    }

    int cart(int set, int s, int h) {
        if (!slates(s) || !houses(h) || set < 1 || set >= sets()) {
            return -2;
        }
        return alone(s, strong(set)).days.getOrDefault(h, NONE);
    }

    int four(int s, int h) {
        if (!slates(s) || !houses(h)) {
            return -2;
        }
        for (int many = 1; many <= port.carriers.size(); many++) {
            for (int set = 1; set < sets(); set++) {
                if (Integer.bitCount(set) == many && cart(set, s, h) != NONE) {
                    return set;
                }
            }
        }
        return NONE;
    }

    int share(int s, int c, int what) {
        if (!carriers(c) || !slates(s) || !oneOrNone(what)) {
            return -2;
        }
        List<Integer> all = new ArrayList<>();
        for (int i = 0; i < port.carriers.size(); i++) {
            all.add(i);
        }
        long[] sum = new long[2];
        orders(all, 0, s, c, sum);
        return (int) lowest(BigInteger.valueOf(sum[0]), BigInteger.valueOf(sum[1]), what);
    }

    private void orders(List<Integer> rest, int ahead, int s, int c, long[] sum) {
        if (rest.isEmpty()) {
            sum[1]++;
        }
        for (int i = 0; i < rest.size(); i++) {
            List<Integer> behind = new ArrayList<>(rest);
            int next = behind.remove(i);
            int set = ahead | 1 << next;
            if (next == c) {
                long orders = 1;
                for (int k = 2; k <= behind.size(); k++) {
                    orders *= k;
                }
                sum[0] += orders * (brought(set, s) - brought(ahead, s));
            }
            orders(behind, set, s, c, sum);
        }
    }

    private int brought(int set, int s) {
        return set == 0 ? 1 : alone(s, strong(set)).days.size();
    }

    static long lowest(BigInteger above, BigInteger below, int what) {
        BigInteger divisor = above.gcd(below);
        return (what == 0 ? above : below).divide(divisor).longValueExact();
    }

    // ---- otherwise ----

    int block(int s) {
        if (!slates(s)) {
            return -2;
        }
        int best = NONE;
        int fewest = now().heard(port.days, s).size();
        for (int w = 0; w < port.ways.size(); w++) {
            int heard = port.course().withoutWay(w).run().heard(port.days, s).size();
            if (heard < fewest) {
                best = w;
                fewest = heard;
            }
        }
        return best;
    }

    int by(int s, int law) {
        return slates(s) && law >= 0 && law <= 3 ? bits(port.course().byLaw(law).run().heard(port.days, s)) : -2;
    }

    int law(int s) {
        if (!slates(s)) {
            return -2;
        }
        int best = 0;
        for (int law = 1; law <= 3; law++) {
            best = Integer.bitCount(by(s, law)) > Integer.bitCount(by(s, best)) ? law : best;
        }
        return best;
    }

    private int wrongRow(int slot, int s) {
        if (slot < 0 || slot > 3 || !slates(s)) {
            return -2;
        }
        List<Long> row = rows.rows.get(slot);
        if (row == null) {
            return -6;
        }
        for (int i = 0; i < row.size(); i++) {
            long most = i % 2 == 0 ? port.days : port.high.size() - 1;
            if (row.get(i) < 0 || row.get(i) > most) {
                return -2;
            }
        }
        return row.size() % 2 == 0 ? 0 : -2;
    }

    private boolean fits(int slot, int s, ModelCourse course) {
        List<Long> row = rows.rows.get(slot);
        for (int i = 0; i < row.size(); i += 2) {
            if (course.lies.get(row.get(i).intValue()).get(s) != row.get(i + 1).longValue()) {
                return false;
            }
        }
        return true;
    }

    private Set<Integer> firstHouses(int slot, int s) {
        Set<Integer> firsts = new TreeSet<>();
        for (int h = 0; h < port.high.size(); h++) {
            if (fits(slot, s, port.course().lyingFirst(s, h).run())) {
                firsts.add(h);
            }
        }
        return firsts;
    }

    int firsts(int slot, int s) {
        int wrong = wrongRow(slot, s);
        return wrong != 0 ? wrong : bits(firstHouses(slot, s));
    }

    private int[] asked(int slot, int s) {
        Set<Integer> firsts = firstHouses(slot, s);
        int best = NONE;
        int fewest = firsts.size();
        for (int d = 0; d <= port.days; d++) {
            Map<Integer, Integer> there = new HashMap<>();
            int worst = 0;
            for (int h : firsts) {
                worst = Math.max(worst, there.merge(port.course().lyingFirst(s, h).run().lies.get(d).get(s), 1, Integer::sum));
            }
            if (worst < fewest) {
                best = d;
                fewest = worst;
            }
        }
        return new int[] {best, fewest};
    }

    int ask(int slot, int s) {
        int wrong = wrongRow(slot, s);
        return wrong != 0 ? wrong : asked(slot, s)[0];
    }

    int leaves(int slot, int s) {
        int wrong = wrongRow(slot, s);
        return wrong != 0 ? wrong : asked(slot, s)[1];
    }

    int laws(int slot, int s) {
        int wrong = wrongRow(slot, s);
        if (wrong != 0) {
            return wrong;
        }
        Set<Integer> laws = new TreeSet<>();
        for (int law = 0; law <= 3; law++) {
            ModelCourse course = port.course().byLaw(law).run();
            int heavy = port.heavy(s, course.left.get(port.days).get(s));
            if (heavy == weight(s, port.days) && fits(slot, s, course)) {
                laws.add(law);
            }
        }
        return bits(laws);
    }

    int gets(int s, int h, int other, int shuts, int otherShuts) {
        if (!slates(s) || !houses(h, other) || h == other || !oneOrNone(shuts) || !oneOrNone(otherShuts)) {
            return -1000;
        }
        Set<Integer> shut = new HashSet<>();
        if (shuts == 1) {
            shut.add(h);
        }
        if (otherShuts == 1) {
            shut.add(other);
        }
        return port.course().shutting(shut).run().known(port.days, h, s).size() + 2 * shuts;
    }

    int rests(int s, int h, int other) {
        if (!slates(s) || !houses(h, other) || h == other) {
            return -2;
        }
        int pairs = 0;
        for (int a = 0; a < 2; a++) {
            for (int b = 0; b < 2; b++) {
                boolean first = gets(s, h, other, 1 - a, b) <= gets(s, h, other, a, b);
                boolean second = gets(s, other, h, 1 - b, a) <= gets(s, other, h, b, a);
                pairs += first && second ? 1 << a + 2 * b : 0;
            }
        }
        return pairs;
    }

    // ---- RAIN ----

    private BigInteger[] likely(String key, int s, int h) {
        return (BigInteger[]) known.computeIfAbsent(key, k -> {
            BigInteger above = BigInteger.ZERO;
            for (int rain = 0; rain < 1 << port.days; rain++) {
                Set<Integer> wet = new HashSet<>();
                BigInteger odds = BigInteger.ONE;
                for (int d = 0; d < port.days; d++) {
                    boolean rains = (rain >> d & 1) == 1;
                    odds = odds.multiply(BigInteger.valueOf(rains ? port.odds : 10 - port.odds));
                    if (rains) {
                        wet.add(d);
                    }
                }
                if (odds.signum() != 0) {
                    ModelCourse course = port.course().raining(wet).run();
                    int counts = h == NONE ? course.left.get(port.days).get(s).size()
                            : course.known(port.days, h, s).isEmpty() ? 0 : 1;
                    above = above.add(odds.multiply(BigInteger.valueOf(counts)));
                }
            }
            return new BigInteger[] {above, BigInteger.TEN.pow(port.days)};
        });
    }

    int chance(int s, int h, int what) {
        if (!slates(s) || !houses(h) || !oneOrNone(what)) {
            return -2;
        }
        if (port.days > 8) {
            return -3;
        }
        BigInteger[] parts = likely("chance " + s + " " + h, s, h);
        return (int) lowest(parts[0], parts[1], what);
    }

    long mean(int s, int what) {
        if (!slates(s) || !oneOrNone(what)) {
            return -2;
        }
        if (port.days > 8) {
            return -3;
        }
        BigInteger[] parts = likely("mean " + s, s, NONE);
        return lowest(parts[0], parts[1], what);
    }

    private Set<Integer> drawnDays(long seed) {
        Set<Integer> wet = new TreeSet<>();
        BigInteger x = BigInteger.valueOf(seed);
        for (int d = 0; d < port.days; d++) {
            x = x.multiply(BigInteger.valueOf(1103515245)).add(BigInteger.valueOf(12345))
                    .mod(BigInteger.valueOf(2147483648L));
            if (x.longValue() / 65536 % 10 < port.odds) {
                wet.add(d);
            }
        }
        return wet;
    }

    int drawn(int seed, int what) {
        if (port == null || seed < 0 || seed > 2000000000 || !oneOrNone(what)) {
            return -2;
        }
        Set<Integer> wet = drawnDays(seed);
        if (what == 0) {
            return bits(wet);
        }
        int left = 0;
        for (Set<Integer> words : port.course().raining(wet).run().left.get(port.days)) {
            left += words.size();
        }
        return left;
    }

    int luck(int seed, int n, int s, int h) {
        if (seed < 0 || seed > 2000000000 || n < 1 || n > 20 || !slates(s) || !houses(h)) {
            return -2;
        }
        int times = 0;
        for (int i = 0; i < n; i++) {
            Set<Integer> wet = drawnDays((long) seed + i);
            times += port.course().raining(wet).run().known(port.days, h, s).isEmpty() ? 0 : 1;
        }
        return times;
    }

    // ---- acts ----

    private void change(ModelPort to) {
        port = to;
        known.clear();
    }

    int carry(int c, int s, int h, int d) {
        if (!carriers(c) || !slates(s) || !houses(h) || !ahead(d)) {
            return -2;
        }
        if (port.acts.size() == 20) {
            return -5;
        }
        ModelPort.Carry carry = new ModelPort.Carry(c, s, h, d);
        change(port.with(new ModelPort.Act(carry, NONE, NONE)));
        return done(port.allCarries().size() - 1);
    }

    int rub(int s, int i) {
        if (!slates(s) || i < 0 || i >= port.words.get(s).size()) {
            return -2;
        }
        if (port.acts.size() == 20) {
            return -5;
        }
        int was = left(s, 0) >> i & 1;
        change(port.with(new ModelPort.Act(null, s, i)));
        return was;
    }

    int undo() {
        if (port == null) {
            return -2;
        }
        if (port.acts.isEmpty()) {
            return -5;
        }
        change(port.withActs(port.acts.size() - 1));
        return port.acts.size();
    }

    int anew() {
        if (port == null) {
            return -2;
        }
        int were = port.acts.size();
        change(port.withActs(0));
        return were;
    }

    int rate(int c, int n) {
        if (!carriers(c) || n < 0 || n > 99) {
            return -2;
        }
        if (!port.acts.isEmpty()) {
            return -5;
        }
        int was = port.carriers.get(c)[1];
        change(port.rated(c, n));
        return was;
    }

    // ---- the object ----

    int count(int what) {
        int filled = rows.rows.size();
        if (what == 10 || what == 11) {
            return what == 10 ? text.tape.size() : filled;
        }
        if (what < 0 || what > 11) {
            return NONE;
        }
        if (port == null) {
            return 0;
        }
        int[] counts = {port.days, port.law, port.odds, port.high.size(), port.ways.size(), port.carriers.size(),
            port.slates.size(), port.carries.size(), port.acts.size(), port.lines};
        return counts[what];
    }

    int image(int k) {
        if (k < 0 || k > 2) {
            return -2;
        }
        images.put(k, port);
        return 0;
    }

    int back(int k) {
        if (k < 0 || k > 2) {
            return -2;
        }
        if (!images.containsKey(k)) {
            return -6;
        }
        change(images.get(k));
        return 0;
    }

    int row(int slot, int width, int n) {
        return rows.row(slot, width, n);
    }

    int write(int slot, int i, long v) {
        return rows.write(slot, i, v);
    }

    int paste(int slot, int i, int to, int k, int n) {
        return rows.paste(slot, i, to, k, n);
    }
}
