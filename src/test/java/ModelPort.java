import java.util.ArrayList;
import java.util.HashSet;
import java.util.List;
import java.util.Set;
import java.util.TreeSet;

/** A PORT and its acts (Terms I); it is never changed once it is told, so that IMAGES can share it. */
final class ModelPort {
    record Carry(int carrier, int slate, int house, int day) {
    }

    /** A CARRY, or (carry null) a WORD rubbed out. */
    record Act(Carry carry, int slate, int word) {
    }

    interface Length {
        int of(int from, int to);
    }

    int lines;
    int days;
    int law;
    int odds;
    final List<Integer> high = new ArrayList<>();
    final List<int[]> ways = new ArrayList<>();
    // HOUSE, strong.
    final List<int[]> carriers = new ArrayList<>();
    // HOUSE.
    final List<Integer> slates = new ArrayList<>();
    final List<List<Integer>> words = new ArrayList<>();
    final List<Carry> carries = new ArrayList<>();
    final List<Act> acts = new ArrayList<>();

    int count(String what) {
        return switch (what) {
            case "house" -> high.size();
            case "way" -> ways.size();
            case "carrier" -> carriers.size();
            case "slate" -> slates.size();
            default -> carries.size();
        };
    }

    void tell(String what, List<Integer> numbers) {
        switch (what) {
            case "port" -> {
                days = numbers.get(0);
                law = numbers.get(1);
                odds = numbers.get(2);
            }
            case "house" -> high.add(numbers.get(0));
            case "way" -> ways.add(new int[] {numbers.get(0), numbers.get(1)});
            case "carrier" -> carriers.add(new int[] {numbers.get(0), numbers.get(1)});
            case "slate" -> {
                slates.add(numbers.get(0));
                words.add(new ArrayList<>(numbers.subList(1, numbers.size())));
            }
            default -> carries.add(new Carry(numbers.get(0), numbers.get(1), numbers.get(2), numbers.get(3)));
        }
    }

    private ModelPort copy() {
        ModelPort copy = new ModelPort();
        copy.lines = lines;
        copy.days = days;
        copy.law = law;
        copy.odds = odds;
        copy.high.addAll(high);
        copy.ways.addAll(ways);
        copy.carriers.addAll(carriers);
        copy.slates.addAll(slates);
        copy.words.addAll(words);
        copy.carries.addAll(carries);
        copy.acts.addAll(acts);
        return copy;
    }

    ModelPort with(Act act) {
        ModelPort copy = copy();
        copy.acts.add(act);
        return copy;
    }

    ModelPort withActs(int many) {
        ModelPort copy = copy();
        copy.acts.subList(many, acts.size()).clear();
        return copy;
    }

    ModelPort rated(int carrier, int strong) {
        ModelPort copy = copy();
        copy.carriers.set(carrier, new int[] {carriers.get(carrier)[0], strong});
        return copy;
    }

    List<Carry> allCarries() {
        List<Carry> all = new ArrayList<>(carries);
        for (Act act : acts) {
            if (act.carry() != null) {
                all.add(act.carry());
            }
        }
        return all;
    }

    Set<Integer> leftOnDay0(int slate) {
        Set<Integer> left = new TreeSet<>();
        for (int i = 0; i < words.get(slate).size(); i++) {
            left.add(i);
        }
        for (Act act : acts) {
            if (act.carry() == null && act.slate() == slate) {
                left.remove(act.word());
            }
        }
        return left;
    }

    int heavy(int slate, Set<Integer> some) {
        int heavy = 0;
        for (int i : some) {
            heavy += words.get(slate).get(i);
        }
        return heavy;
    }

    int climb(int from, int to) {
        return high.get(to) > high.get(from) ? high.get(to) - high.get(from) : 0;
    }

    Set<Integer> doors(int house, int without) {
        Set<Integer> doors = new TreeSet<>();
        for (int w = 0; w < ways.size(); w++) {
            int[] way = ways.get(w);
            if (w != without && way[0] == house) {
                doors.add(way[1]);
            }
            if (w != without && way[1] == house) {
                doors.add(way[0]);
            }
        }
        return doors;
    }

    /** Over all ways that pass no HOUSE twice. */
    int shortest(int from, int to, Length length) {
        return walk(from, to, length, new HashSet<>(Set.of(from)));
    }

    private int walk(int from, int to, Length length, Set<Integer> been) {
        if (from == to) {
            return 0;
        }
        int best = Model.NONE;
        for (int next : doors(from, Model.NONE)) {
            if (been.add(next)) {
                int rest = walk(next, to, length, been);
                been.remove(next);
                if (rest != Model.NONE && (best == Model.NONE || rest + length.of(from, next) < best)) {
                    best = rest + length.of(from, next);
                }
            }
        }
        return best;
    }

    /** The WORDS left behind the rubbing by a LAW. */
    Set<Integer> ruled(int slate, Set<Integer> left, int byLaw) {
        int rubs = Model.NONE;
        for (int i : left) {
            if (byLaw == 1 && rubs == Model.NONE) {
                rubs = i;
            }
            if (byLaw == 2 && (rubs == Model.NONE || words.get(slate).get(i) > words.get(slate).get(rubs))) {
                rubs = i;
            }
            if (byLaw == 3) {
                rubs = i;
            }
        }
        Set<Integer> rest = new TreeSet<>(left);
        rest.remove(rubs);
        return rest;
    }

    ModelCourse course() {
        return new ModelCourse(this);
    }
}
