/** Promises 12 to 30 and 47: what comes to pass DAY by DAY (Terms II). */
public final class DaysTest {
    // Slate 0 goes 0, 2, 1, 2, 0 and loses the first 7 in 2, the second one in 1; slate 1 goes from 1 to 0.
    private static final String TEXT = "port days 5 law 2 odds 3;"
            + "house high 2;house high 6;house high 3;house high 0;"
            + "way 0 1;way 1 2;way 2 0;"
            + "carrier at 0 strong 20;carrier at 1 strong 9;"
            + "slate at 0 word 3 word 7 word 7;slate at 1 word 4;"
            + "carry 0 0 to 1 at 0;"
            + "carry 1 1 to 0 at 0;"
            + "carry 0 0 to 2 at 1;"
            + "carry 1 1 to 3 at 1;"
            + "carry 0 0 to 1 at 1;"
            + "carry 1 0 to 1 at 2;"
            + "carry 0 0 to 1 at 2;"
            + "carry 0 0 to 2 at 5;"
            + "carry 0 0 to 2 at 3;"
            + "carry 0 0 to 0 at 4;";
    private static final int[] WHY = {5, 0, 0, 4, 2, 3, 0, 1, 0, 0};
    private static final int[] LOAD = {-1, 4, 18, -1, -1, -1, 13, -1, 3, 3};

    private static final Check CHECK = new Check();
    private static final SlateHands HANDS = Ports.of(TEXT);

    private DaysTest() {
    }

    public static void main(String[] args) {
        promises12to15();
        promises16to18();
        promise19();
        promises20to23();
        promise24();
        promises25to27();
        promise28();
        promise29();
        promise30();
        promise47();
        oneByOne();
        byLaw();
        allHouses();
        smallerBehindLarger();
        none();
        CHECK.finish();
    }

    private static void promises12to15() {
        int[] at0 = {0, 0, 2, 1, 2, 0};
        int[] at1 = {1, 0, 0, 0, 0, 0};
        int[] left0 = {7, 7, 5, 1, 1, 1};
        int[] weight0 = {17, 17, 10, 3, 3, 3};
        for (int day = 0; day <= 5; day++) {
            CHECK.due("at(0, " + day + ")", HANDS.at(0, day), at0[day]);
            CHECK.due("at(1, " + day + ")", HANDS.at(1, day), at1[day]);
            CHECK.due("lies(0, " + day + ")", HANDS.lies(0, day), at0[day]);
            CHECK.due("lies(1, " + day + ")", HANDS.lies(1, day), at1[day]);
            CHECK.due("left(0, " + day + ")", HANDS.left(0, day), left0[day]);
            CHECK.due("left(1, " + day + ")", HANDS.left(1, day), day == 0 ? 1 : 0);
            CHECK.due("weight(0, " + day + ")", HANDS.weight(0, day), weight0[day]);
            CHECK.due("weight(1, " + day + ")", HANDS.weight(1, day), day == 0 ? 4 : 0);
        }
        int[][] wrong = {{-1, 0}, {2, 0}, {0, -1}, {0, 6}};
        for (int[] pair : wrong) {
            String numbers = "(" + pair[0] + ", " + pair[1] + ")";
            CHECK.due("at" + numbers, HANDS.at(pair[0], pair[1]), -2);
            CHECK.due("lies" + numbers, HANDS.lies(pair[0], pair[1]), -2);
            CHECK.due("left" + numbers, HANDS.left(pair[0], pair[1]), -2);
            CHECK.due("weight" + numbers, HANDS.weight(pair[0], pair[1]), -2);
            CHECK.due("heard" + numbers, HANDS.heard(pair[0], pair[1]), -2);
            CHECK.due("full" + numbers, HANDS.full(pair[0], pair[1]), -2);
            CHECK.due("knows by 0" + numbers, HANDS.knows(0, pair[0], pair[1]), -2);
        }
    }

    private static void promises16to18() {
        int[] byHouse1 = {0, 0, 0, 5, 5, 5};
        int[] byHouse2 = {0, 0, 7, 7, 7, 7};
        int[] heard = {1, 1, 5, 7, 7, 7};
        int[] full = {1, 1, 5, 5, 5, 5};
        for (int day = 0; day <= 5; day++) {
            CHECK.due("knows(0, 0, " + day + ")", HANDS.knows(0, 0, day), 7);
            CHECK.due("knows(1, 0, " + day + ")", HANDS.knows(1, 0, day), byHouse1[day]);
            CHECK.due("knows(2, 0, " + day + ")", HANDS.knows(2, 0, day), byHouse2[day]);
            CHECK.due("knows(3, 0, " + day + ")", HANDS.knows(3, 0, day), 0);
            CHECK.due("knows(0, 1, " + day + ")", HANDS.knows(0, 1, day), day == 0 ? 0 : 1);
            CHECK.due("heard(0, " + day + ")", HANDS.heard(0, day), heard[day]);
            CHECK.due("heard(1, " + day + ")", HANDS.heard(1, day), day == 0 ? 2 : 3);
            CHECK.due("full(0, " + day + ")", HANDS.full(0, day), full[day]);
            CHECK.due("full(1, " + day + ")", HANDS.full(1, day), day == 0 ? 2 : 3);
        }
        CHECK.due("knows(4, 0, 0)", HANDS.knows(4, 0, 0), -2);
        CHECK.due("knows(-1, 0, 0)", HANDS.knows(-1, 0, 0), -2);
        SlateHands rubbed = Ports.of(TEXT);
        rubbed.rub(0, 0);
        CHECK.due("full as told, with a WORD rubbed out", rubbed.full(0, 5), 0);
    }

    private static void promise19() {
        int[] when0 = {0, 3, 2, -1};
        int[] when1 = {1, 0, -1, -1};
        for (int h = 0; h < 4; h++) {
            CHECK.due("when(" + h + ", 0)", HANDS.when(h, 0), when0[h]);
            CHECK.due("when(" + h + ", 1)", HANDS.when(h, 1), when1[h]);
        }
        CHECK.due("when(4, 0)", HANDS.when(4, 0), -2);
        CHECK.due("when(0, 2)", HANDS.when(0, 2), -2);
        SlateHands late = Ports.of("port days 1 law 0 odds 0;house high 0;house high 0;way 0 1;"
                + "carrier at 0 strong 9;slate at 0 word 9;carry 0 0 to 1 at 0;");
        CHECK.due("when, on the last DAY", late.when(1, 0), 1);
        CHECK.due("dones, the first CARRY", late.dones(), 1);
        CHECK.due("toil, the first CARRY", late.toil(0), 9);
        CHECK.due("moves, the first CARRY", late.moves(0), 1);
        CHECK.due("trips, the first CARRY", late.trips(0), 1);
    }

    private static void promises20to23() {
        int dones = 0;
        for (int k = 0; k < WHY.length; k++) {
            CHECK.due("done(" + k + ")", HANDS.done(k), WHY[k] == 0 ? 1 : 0);
            CHECK.due("why(" + k + ")", HANDS.why(k), WHY[k]);
            CHECK.due("load(" + k + ")", HANDS.load(k), LOAD[k]);
            dones |= WHY[k] == 0 ? 1 << k : 0;
        }
        CHECK.due("dones()", HANDS.dones(), dones);
        for (int k : new int[] {-1, WHY.length, 32}) {
            CHECK.due("done(" + k + ")", HANDS.done(k), -2);
            CHECK.due("why(" + k + ")", HANDS.why(k), -2);
            CHECK.due("load(" + k + ")", HANDS.load(k), -2);
        }
        SlateHands acts = Ports.of(TEXT);
        acts.rub(1, 0);
        acts.carry(1, 1, 1, 4);
        CHECK.due("done, of an act behind those told", acts.done(10), 1);
        CHECK.due("load of it, all rubbed, a climb of 4", acts.load(10), 4);
        CHECK.due("done(11)", acts.done(11), -2);
        CHECK.due("dones() with it", acts.dones(), dones | 1 << 10);
        SlateHands bare = Ports.of("port days 1 law 0 odds 0;");
        CHECK.due("dones() of none", bare.dones(), 0);
        CHECK.due("why(0) of none", bare.why(0), -2);
        SlateHands first = Ports.of("port days 2 law 0 odds 0;house high 0;house high 9;way 0 1;"
                + "carrier at 0 strong 1;slate at 1 word 5;carry 0 0 to 0 at 2;carry 0 0 to 0 at 1;carry 0 0 to 1 at 1;");
        CHECK.due("why: the first that holds, its DAY", first.why(0), 1);
        CHECK.due("why: the first that holds, apart", first.why(1), 3);
        CHECK.due("why: apart, though where it lies is told", first.why(2), 3);
    }

    private static void promise24() {
        int[] idle = {1, 2, 2, 2, 2, -2};
        for (int day = 0; day < idle.length; day++) {
            CHECK.due("idle(" + day + ")", HANDS.idle(day), idle[day]);
        }
        CHECK.due("idle(-1)", HANDS.idle(-1), -2);
        CHECK.due("idle(0), no PORT", new SlateHands().idle(0), -2);
        CHECK.due("idle(0), no CARRIERS", Ports.of("port days 1 law 0 odds 0;").idle(0), 0);
    }

    private static void promises25to27() {
        CHECK.due("moves(0)", HANDS.moves(0), 4);
        CHECK.due("moves(1)", HANDS.moves(1), 1);
        CHECK.due("moves(2)", HANDS.moves(2), -2);
        CHECK.due("moves(-1)", HANDS.moves(-1), -2);
        CHECK.due("trips(0)", HANDS.trips(0), 4);
        CHECK.due("trips(1)", HANDS.trips(1), 1);
        CHECK.due("trips(2)", HANDS.trips(2), -2);
        CHECK.due("trips(-1)", HANDS.trips(-1), -2);
        CHECK.due("toil(0)", HANDS.toil(0), 18 + 13 + 3 + 3);
        CHECK.due("toil(1)", HANDS.toil(1), 4);
        CHECK.due("toil(2)", HANDS.toil(2), -2);
        CHECK.due("toil(-1)", HANDS.toil(-1), -2);
    }

    private static void promise28() {
        CHECK.due("rubbed(0)", HANDS.rubbed(0), 2);
        CHECK.due("rubbed(1)", HANDS.rubbed(1), 1);
        CHECK.due("rubbed(2)", HANDS.rubbed(2), -2);
        CHECK.due("rubbed(-1)", HANDS.rubbed(-1), -2);
        SlateHands acts = Ports.of(TEXT);
        acts.rub(0, 2);
        CHECK.due("rubbed(0), one of them by an act", acts.rubbed(0), 3);
    }

    private static void promise29() {
        CHECK.due("gossip()", HANDS.gossip(), 0);
        CHECK.due("gossip(), no PORT", new SlateHands().gossip(), -2);
        CHECK.due("gossip(), no HOUSES", Ports.of("port days 1 law 0 odds 0;").gossip(), SlateHands.NONE);
        String two = "port days 1 law 0 odds 0;house high 0;house high 0;house high 0;slate at 2 word 1 word 1;";
        CHECK.due("gossip() of two SLATES together", Ports.of(two + "slate at 1 word 1;slate at 1 word 1 word 1;").gossip(), 1);
        CHECK.due("gossip(), the first of several", Ports.of(two + "slate at 1 word 1;slate at 1 word 1;").gossip(), 1);
        CHECK.due("gossip() by WORDS, not SLATES", Ports.of(two + "slate at 1 word 1;").gossip(), 2);
    }

    private static void promise30() {
        CHECK.due("famous()", HANDS.famous(), 0);
        CHECK.due("famous(), no PORT", new SlateHands().famous(), -2);
        CHECK.due("famous(), no SLATES", Ports.of("port days 1 law 0 odds 0;house high 0;").famous(), SlateHands.NONE);
        SlateHands hands = Ports.of("port days 1 law 0 odds 0;house high 0;house high 0;way 0 1;"
                + "carrier at 0 strong 9;slate at 0 word 1;slate at 1 word 1;slate at 0 word 1;");
        CHECK.due("famous(), the first of several", hands.famous(), 0);
        hands.rub(0, 0);
        CHECK.due("famous(), the first of those heard", hands.famous(), 1);
        hands.carry(0, 2, 1, 0);
        CHECK.due("famous(), the one carried", hands.famous(), 2);
    }

    private static void promise47() {
        CHECK.due("beside(0)", HANDS.beside(0), 2);
        CHECK.due("beside(1)", HANDS.beside(1), 0);
        CHECK.due("beside(2)", HANDS.beside(2), -2);
        CHECK.due("beside(-1)", HANDS.beside(-1), -2);
        String text = "port days 2 law 0 odds 0;house high 0;house high 0;house high 0;way 0 1;way 1 2;"
                + "carrier at 1 strong 9;slate at 1 word 1;";
        CHECK.due("beside, none knows", Ports.of(text).beside(0), SlateHands.NONE);
        CHECK.due("beside, the first of several", Ports.of(text + "carry 0 0 to 2 at 0;carry 0 0 to 1 at 1;").beside(0), 2);
        CHECK.due("beside, the other", Ports.of(text + "carry 0 0 to 0 at 0;").beside(0), 0);
    }

    private static void oneByOne() {
        String text = "port days 2 law 0 odds 0;house high 0;house high 3;house high 1;way 0 1;way 0 2;way 1 2;"
                + "carrier at 0 strong 5;carrier at 0 strong 4;slate at 0 word 2;slate at 0 word 1;";
        SlateHands hands = Ports.of(text + "carry 0 0 to 1 at 1;carry 1 0 to 2 at 0;carry 1 1 to 2 at 0;"
                + "carry 0 0 to 1 at 0;carry 0 1 to 1 at 0;carry 1 0 to 1 at 1;");
        int[] why = {3, 0, 2, 2, 0, 0};
        for (int k = 0; k < why.length; k++) {
            CHECK.due("in their order within a DAY: why(" + k + ")", hands.why(k), why[k]);
        }
        CHECK.due("a LOAD just as heavy as he is strong", hands.load(5), 4);
        SlateHands heavier = Ports.of(text + "carry 1 0 to 1 at 0;");
        CHECK.due("a LOAD heavier by one", heavier.why(0), 5);
        SlateHands refused = Ports.of(text + "carry 1 0 to 1 at 0;carry 1 0 to 2 at 0;");
        CHECK.due("a CARRY not done keeps none away", refused.why(1), 0);
    }

    private static void byLaw() {
        // Brought to 1, 2, 1 again and 0 again, from 0.
        String[] left = {"31 31 31 31", "30 28 28 28", "29 21 21 21", "15 7 7 7"};
        for (int law = 0; law < 4; law++) {
            SlateHands hands = Ports.of("port days 4 law " + law + " odds 0;house high 0;house high 0;house high 0;"
                    + "way 0 1;way 1 2;carrier at 0 strong 99;slate at 0 word 5 word 9 word 5 word 9 word 1;"
                    + "carry 0 0 to 1 at 0;carry 0 0 to 2 at 1;carry 0 0 to 1 at 2;carry 0 0 to 0 at 3;");
            String[] due = left[law].split(" ");
            for (int day = 1; day <= 4; day++) {
                CHECK.due("LAW " + law + ": left(0, " + day + ")", hands.left(0, day), Integer.parseInt(due[day - 1]));
            }
            CHECK.due("LAW " + law + ": what 1 knows ahead of rubbing", hands.knows(1, 0, 4), 31);
            CHECK.due("LAW " + law + ": what 2 knows", hands.knows(2, 0, 4), Integer.parseInt(due[0]));
        }
    }

    /** What the next SLATE's first HOUSE knows is not known by a ninth one. */
    private static void allHouses() {
        SlateHands hands = Ports.of("port days 1 law 0 odds 5;" + "house high 0;".repeat(8) + "way 6 7;"
                + "carrier at 7 strong 9;slate at 7 word 1;slate at 0 word 1;carry 0 0 to 6 at 0;");
        CHECK.due("heard(0, 1)", hands.heard(0, 1), 0b11000000);
        CHECK.due("full(0, 1)", hands.full(0, 1), 0b11000000);
        CHECK.due("heard(1, 1)", hands.heard(1, 1), 1);
        CHECK.due("beside(0)", hands.beside(0), 6);
        CHECK.due("beside(1)", hands.beside(1), SlateHands.NONE);
        CHECK.due("can(0, 0)", hands.can(0, 0), 0b11000000);
        CHECK.due("chance(0, 6, 0)", hands.chance(0, 6, 0), 1);
        CHECK.due("chance(0, 6, 1)", hands.chance(0, 6, 1), 2);
        CHECK.due("chance(1, 0, 0)", hands.chance(1, 0, 0), 1);
        CHECK.due("chance(1, 0, 1)", hands.chance(1, 0, 1), 1);
        hands.rate(0, 0);
        CHECK.due("beside(0), not carried", hands.beside(0), SlateHands.NONE);
    }

    private static void smallerBehindLarger() {
        SlateHands hands = Ports.of("port days 3 law 0 odds 0;" + "house high 0;".repeat(8) + "way 0 7;way 1 2;"
                + "carrier at 0 strong 9;carrier at 0 strong 9;slate at 0 word 1 word 1;slate at 0 word 1;"
                + "carry 0 0 to 7 at 0;carry 1 1 to 7 at 0;");
        CHECK.due("WORDS of two", hands.drawn(0, 1), 3);
        hands.needs(0, 7);
        hands.brings(0, 0, 7);
        Ports.told(hands, "port days 1 law 0 odds 0;house high 9;house high 0;house high 9;way 0 1;"
                + "carrier at 1 strong 9;slate at 1 word 1;");
        CHECK.due("WORDS of one", hands.drawn(0, 1), 1);
        CHECK.due("climb", hands.climb(1, 2), SlateHands.NONE);
        CHECK.due("far", hands.far(1, 2), SlateHands.NONE);
        CHECK.due("can", hands.can(0, 0), 2);
        CHECK.due("needs", hands.needs(0, 0), 10);
        CHECK.due("knows", hands.knows(0, 0, 1), 0);
        CHECK.due("dones", hands.dones(), 0);
    }

    private static void none() {
        SlateHands hands = new SlateHands();
        CHECK.due("no PORT: at(0, 0)", hands.at(0, 0), -2);
        CHECK.due("no PORT: lies(0, 0)", hands.lies(0, 0), -2);
        CHECK.due("no PORT: full(0, 0)", hands.full(0, 0), -2);
        CHECK.due("no PORT: weight(0, 0)", hands.weight(0, 0), -2);
        CHECK.due("no PORT: load(0)", hands.load(0), -2);
        CHECK.due("no PORT: trips(0)", hands.trips(0), -2);
        CHECK.due("no PORT: toil(0)", hands.toil(0), -2);
        CHECK.due("no PORT: rubbed(0)", hands.rubbed(0), -2);
    }
}
