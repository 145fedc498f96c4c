import java.util.ArrayList;
import java.util.HashMap;
import java.util.List;
import java.util.Map;

/** SLOTS, as promises 62 to 64 tell them. */
final class ModelRows {
    final Map<Integer, List<Long>> rows = new HashMap<>();
    private final Map<Integer, Integer> widths = new HashMap<>();

    int row(int slot, int width, int n) {
        if (slot < 0 || slot > 3 || width < 0 || width > 3 || n > 60) {
            return -2;
        }
        if (n < 0) {
            return -3;
        }
        List<Long> row = new ArrayList<>();
        for (int i = 0; i < n; i++) {
            row.add(0L);
        }
        rows.put(slot, row);
        widths.put(slot, width);
        return 0;
    }

    int write(int slot, int i, long v) {
        if (slot < 0 || slot > 3) {
            return -2;
        }
        if (!rows.containsKey(slot)) {
            return -6;
        }
        if (i < 0 || i >= rows.get(slot).size()) {
            return -7;
        }
        int away = 64 - (8 << widths.get(slot));
        rows.get(slot).set(i, v << away >> away);
        return 0;
    }

    int paste(int slot, int i, int to, int k, int n) {
        if (slot < 0 || slot > 3 || to < 0 || to > 3) {
            return -2;
        }
        if (!rows.containsKey(slot) || !rows.containsKey(to)) {
            return -6;
        }
        if (!widths.get(slot).equals(widths.get(to))) {
            return -8;
        }
        if (i < 0 || k < 0 || n < 0 || (long) i + n > rows.get(slot).size() || (long) k + n > rows.get(to).size()) {
            return -7;
        }
        List<Long> were = new ArrayList<>(rows.get(slot).subList(i, i + n));
        for (int j = 0; j < n; j++) {
            rows.get(to).set(k + j, were.get(j));
        }
        return 0;
    }
}
