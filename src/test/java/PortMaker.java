import java.util.Random;

/** Texts of PORTS by chance, small ones mostly, so that much is carried in them; some with a FAULT. */
final class PortMaker {
    private final Random random;
    private final StringBuilder text = new StringBuilder();

    PortMaker(Random random) {
        this.random = random;
    }

    String text() {
        int days = random.nextInt(4) == 0 ? upTo(1, 12) : upTo(1, 8);
        int houses = random.nextInt(4) == 0 ? 8 : upTo(1, 5);
        int ways = houses < 2 ? 0 : random.nextInt(4) == 0 ? upTo(0, 12) : Math.min(12, upTo(houses - 1, houses + 2));
        int carriers = upTo(0, random.nextInt(3) == 0 ? 5 : 3);
        int slates = upTo(random.nextInt(9) == 0 ? 0 : 1, random.nextInt(3) == 0 ? 3 : 1);
        line("port", "days", days, "law", upTo(0, 3), "odds", random.nextInt(6) == 0 ? 10 * upTo(0, 1) : upTo(0, 10));
        int high = random.nextBoolean() ? 20 : 4;
        for (int i = 0; i < houses; i++) {
            line("house", "high", upTo(0, high));
        }
        int crowded = Math.max(1, random.nextBoolean() ? houses : houses / 2);
        for (int i = 0; i < ways; i++) {
            way(i, houses);
        }
        for (int i = 0; i < carriers; i++) {
            line("carrier", "at", upTo(0, crowded - 1), "strong", random.nextBoolean() ? upTo(0, 99) : upTo(0, 30));
        }
        int heavy = random.nextBoolean() ? 30 : 6;
        for (int i = 0; i < slates; i++) {
            text.append("slate at ").append(upTo(0, crowded - 1));
            for (int words = upTo(1, 6); words > 0; words--) {
                text.append(" word ").append(upTo(1, heavy));
            }
            text.append(";");
        }
        int carries = carriers == 0 || slates == 0 ? 0 : upTo(0, 12);
        for (int i = 0; i < carries; i++) {
            line("carry", upTo(0, carriers - 1), upTo(0, slates - 1), "to", upTo(0, houses - 1), "at",
                    random.nextInt(9) == 0 ? upTo(0, 11) : Math.min(11, upTo(0, days - 1)));
        }
        if (random.nextInt(5) == 0) {
            spoil();
        }
        if (text.length() > 800) {
            text.setLength(800);
        }
        return text.toString();
    }

    private void way(int i, int houses) {
        int from = i + 1 < houses ? i + 1 : upTo(0, houses - 1);
        int to = i + 1 < houses ? upTo(0, i) : upTo(0, houses - 1);
        line("way", from, from == to ? (to + 1) % houses : to);
    }

    private void line(Object... parts) {
        String[] gaps = {" ", " ", " ", "  ", "\n"};
        for (int i = 0; i < parts.length; i++) {
            text.append(i > 0 ? gaps[random.nextInt(gaps.length)] : "").append(parts[i]);
        }
        text.append(random.nextInt(6) == 0 ? " ;\n" : ";");
    }

    private void spoil() {
        int at = random.nextInt(text.length());
        String[] bits = {";", "9", " ", "word 3", "house high 3;", "way 0 1;", "x", "A", "\t", "\u00ff", "0", "99999999999",
            "port days 3 law 0 odds 0;", "carry 0 0 to 0 at 0;", "carrier at 0 strong 3;", "slate at 0 word 1;", "at"};
        int what = random.nextInt(4);
        if (what == 0) {
            text.deleteCharAt(at);
        } else if (what == 1) {
            text.setLength(at);
        } else {
            int place = what == 2 ? at : Math.max(0, text.lastIndexOf(";", at) + 1);
            text.insert(place, bits[random.nextInt(bits.length)]);
        }
    }

    private int upTo(int least, int most) {
        return least + random.nextInt(Math.max(1, most - least + 1));
    }
}
