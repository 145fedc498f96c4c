/** PORTS that have as much, and as little, as there can be. */
final class FullPort {
    /** One of each, but two HOUSES, as a WAY needs them. */
    static final String ONE_EACH = "port days 1 law 0 odds 0;house high 0;house high 0;way 0 1;"
            + "carrier at 0 strong 1;slate at 0 word 1;carry 0 0 to 1 at 0;";

    private FullPort() {
    }

    /**
     * The last of each is not like those ahead of it: CARRIER 4 alone is strong, and brings SLATE 2
     * by WAY 11 from 6 up to 7 on the last DAY but one.
     */
    static String of(int days) {
        return "port days " + days + " law 0 odds 10;"
                + "house high 0;".repeat(6) + "house high 1;house high 20;"
                + "way 0 1;way 1 2;way 2 3;way 3 4;way 4 5;way 5 6;way 0 2;way 1 3;way 2 4;way 3 5;way 4 6;way 6 7;"
                + "carrier at 0 strong 0;".repeat(4) + "carrier at 6 strong 99;"
                + "slate at 0 word 1;slate at 0 word 1;slate at 6 word 1 word 2 word 3 word 4 word 5 word 30;"
                + "carry 0 0 to 1 at 0;".repeat(11) + "carry 4 2 to 7 at " + (days - 1) + ";";
    }
}
