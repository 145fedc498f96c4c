import java.util.ArrayList;
import java.util.HashSet;
import java.util.List;
import java.util.Map;
import java.util.Set;
import java.util.TreeMap;
import java.util.TreeSet;

/** Terms II: all DAYS of a PORT, with something in it otherwise where asked. */
final class ModelCourse {
    private final ModelPort port;
    private int law;
    private int lostWay = Model.NONE;
    private Set<Integer> shut = Set.of();
    private Set<Integer> rain = Set.of();
    private final List<Integer> firsts;

    final List<List<Integer>> at = new ArrayList<>();
    final List<List<Integer>> lies = new ArrayList<>();
    final List<List<Set<Integer>>> left = new ArrayList<>();
    final List<Map<String, Set<Integer>>> knows = new ArrayList<>();
    final List<Integer> why = new ArrayList<>();
    final List<Integer> load = new ArrayList<>();

    ModelCourse(ModelPort port) {
        this.port = port;
        law = port.law;
        firsts = new ArrayList<>(port.slates);
    }

    ModelCourse byLaw(int otherLaw) {
        law = otherLaw;
        return this;
    }

    ModelCourse withoutWay(int way) {
        lostWay = way;
        return this;
    }

    ModelCourse shutting(Set<Integer> houses) {
        shut = houses;
        return this;
    }

    ModelCourse raining(Set<Integer> days) {
        rain = days;
        return this;
    }

    ModelCourse lyingFirst(int slate, int house) {
        firsts.set(slate, house);
        return this;
    }

    Set<Integer> known(int day, int house, int slate) {
        return knows.get(day).getOrDefault(house + " " + slate, Set.of());
    }

    Set<Integer> heard(int day, int slate) {
        Set<Integer> houses = new TreeSet<>();
        for (int h = 0; h < port.high.size(); h++) {
            if (!known(day, h, slate).isEmpty()) {
                houses.add(h);
            }
        }
        return houses;
    }

    ModelCourse run() {
        List<Integer> carriersAt = new ArrayList<>();
        List<Integer> slatesAt = new ArrayList<>(firsts);
        List<Set<Integer>> words = new ArrayList<>();
        List<Set<Integer>> been = new ArrayList<>();
        Map<String, Set<Integer>> knowing = new TreeMap<>();
        for (int[] carrier : port.carriers) {
            carriersAt.add(carrier[0]);
        }
        for (int s = 0; s < firsts.size(); s++) {
            words.add(port.leftOnDay0(s));
            been.add(new HashSet<>(Set.of(firsts.get(s))));
            knowing.put(firsts.get(s) + " " + s, words.get(s));
        }
        for (ModelPort.Carry carry : port.allCarries()) {
            why.add(carry.day() < port.days ? null : 1);
            load.add(Model.NONE);
        }
        for (int day = 0; day <= port.days; day++) {
            at.add(new ArrayList<>(carriersAt));
            lies.add(new ArrayList<>(slatesAt));
            left.add(new ArrayList<>(words));
            knows.add(new TreeMap<>(knowing));
            if (day < port.days) {
                pass(day, carriersAt, slatesAt, words, been, knowing);
            }
        }
        return this;
    }

    private void pass(int day, List<Integer> carriersAt, List<Integer> slatesAt, List<Set<Integer>> words,
            List<Set<Integer>> been, Map<String, Set<Integer>> knowing) {
        Set<String> out = new HashSet<>();
        List<ModelPort.Carry> all = port.allCarries();
        for (int k = 0; k < all.size(); k++) {
            ModelPort.Carry carry = all.get(k);
            if (carry.day() != day) {
                continue;
            }
            int s = carry.slate();
            int from = slatesAt.get(s);
            int to = carry.house();
            int weighs = port.heavy(s, words.get(s)) + port.climb(from, to);
            if (out.contains("carrier " + carry.carrier()) || out.contains("slate " + s)) {
                why.set(k, 2);
            } else if (carriersAt.get(carry.carrier()) != from) {
                why.set(k, 3);
            } else if (shut.contains(to) || !port.doors(from, lostWay).contains(to)) {
                why.set(k, 4);
            } else if (weighs > port.carriers.get(carry.carrier())[1]) {
                why.set(k, 5);
            } else {
                why.set(k, 0);
                load.set(k, weighs);
                out.add("carrier " + carry.carrier());
                out.add("slate " + s);
                carriersAt.set(carry.carrier(), to);
                slatesAt.set(s, to);
                Set<Integer> rest = rain.contains(day) ? port.ruled(s, words.get(s), 1) : words.get(s);
                Set<Integer> known = new TreeSet<>(knowing.getOrDefault(to + " " + s, Set.of()));
                known.addAll(rest);
                knowing.put(to + " " + s, known);
                words.set(s, been.get(s).add(to) ? port.ruled(s, rest, law) : rest);
            }
        }
    }
}
