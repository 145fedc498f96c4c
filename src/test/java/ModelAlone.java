import java.util.HashMap;
import java.util.HashSet;
import java.util.Map;
import java.util.Set;
import java.util.TreeMap;
import java.util.TreeSet;

/** Terms III and IV: where a SLATE can be, DAY by DAY, if one so strong carries it. */
final class ModelAlone {
    private record State(int house, Set<Integer> left, Set<Integer> been, Set<Integer> heard) {
    }

    // By HOUSE.
    final Map<Integer, Integer> days = new TreeMap<>();
    final Map<Integer, Integer> saved = new TreeMap<>();
    private final Map<Integer, Integer> mostTold = new HashMap<>();

    ModelAlone(ModelPort port, int slate, int strong) {
        int first = port.slates.get(slate);
        Set<Integer> left = port.leftOnDay0(slate);
        Set<Integer> heard = left.isEmpty() ? Set.of() : Set.of(first);
        days.put(first, 0);
        saved.put(first, left.size());
        Set<State> seen = new HashSet<>();
        Set<State> today = new HashSet<>();
        today.add(new State(first, left, Set.of(first), heard));
        for (int day = 0; !today.isEmpty(); day++) {
            Set<State> next = new HashSet<>();
            for (State state : today) {
                days.putIfAbsent(state.house(), day);
                mostTold.merge(day, state.heard().size(), Math::max);
                if (seen.add(state)) {
                    carryOn(port, slate, strong, state, next);
                }
            }
            today = next;
        }
    }

    int told(int n) {
        int most = 0;
        for (int day = 0; day <= n; day++) {
            most = Math.max(most, mostTold.getOrDefault(day, 0));
        }
        return most;
    }

    private void carryOn(ModelPort port, int slate, int strong, State state, Set<State> next) {
        for (int to : port.doors(state.house(), Model.NONE)) {
            if (port.heavy(slate, state.left()) + port.climb(state.house(), to) <= strong) {
                Set<Integer> left = state.left();
                Set<Integer> been = new TreeSet<>(state.been());
                Set<Integer> heard = new TreeSet<>(state.heard());
                if (!left.isEmpty()) {
                    heard.add(to);
                }
                if (been.add(to)) {
                    saved.merge(to, left.size(), Math::max);
                    left = port.ruled(slate, left, port.law);
                }
                next.add(new State(to, left, been, heard));
            }
        }
    }
}
