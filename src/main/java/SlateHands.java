import java.util.Arrays;

/** A port told as a text, in which slates of words are carried by hand from house to house. */
public final class SlateHands {
    public static final int NONE = -1;

    private static final int NO_SUCH = -2;
    private static final int BEYOND = -3;
    private static final int FAULTY = -4;
    private static final int BY_ACTS = -5;
    private static final int EMPTY = -6;
    private static final int NO_PLACE = -7;
    private static final int UNLIKE = -8;
    private static final int NO_GAME = -1000;

    private static final int MOST_BYTES = 800;
    private static final int MOST_DAYS = 12;
    private static final int LAWS = 4;
    private static final int HOUSES = 8;
    private static final int WAYS = 12;
    private static final int CARRIERS = 5;
    private static final int SLATES = 3;
    private static final int WORDS = 6;
    private static final int CARRIES_TOLD = 12;
    private static final int ACTS = 20;
    private static final int CARRIES = CARRIES_TOLD + ACTS;
    private static final int IMAGES = 3;
    private static final int MOST_HIGH = 20;
    private static final int MOST_STRONG = 99;
    private static final int MOST_HEAVY = 30;
    private static final int MOST_ODDS = 10;
    private static final int MOST_SEED = 2_000_000_000;
    private static final int MOST_LUCK = 20;
    private static final int MOST_RAIN_DAYS = 8;
    private static final int FOR_SHUTTING = 2;
    // Pairs of choices of two HOUSES, a bit each.
    private static final int FIRST_SHUTS = 1;
    private static final int OTHER_SHUTS = 2;
    private static final int PAIRS = 4;
    private static final int[] FACTORIALS = {1, 1, 2, 6, 24, 120};

    private final Tape tape = new Tape();
    private final Reader reader = new Reader();
    private final Port port = new Port();
    private final Port draft = new Port();
    private final Port[] images = new Port[IMAGES];
    private final Slots slots = new Slots();
    private final Diary now = new Diary();
    private final Diary whatIf = new Diary();
    private final Paths paths = new Paths();
    private final Alone alone = new Alone();
    private final Weather weather = new Weather();
    private final Seen seen = new Seen();
    private final int[] gains = new int[PAIRS];
    private final int[] otherGains = new int[PAIRS];

    public SlateHands() {
    }

    // ---- the text ----

    public int feed(int a, int b, int c, int d, int e) {
        if (tape.size + 20 > MOST_BYTES) {
            return NONE;
        }
        tape.add(a);
        tape.add(b);
        tape.add(c);
        tape.add(d);
        tape.add(e);
        return tape.size;
    }

    public int end(int n) {
        if (n < 0 || n > tape.size) {
            return NONE;
        }
        tape.size = n;
        return n;
    }

    public int port() {
        boolean whole = reader.read(tape, draft);
        tape.size = 0;
        if (!whole) {
            return FAULTY;
        }
        port.copy(draft);
        makeStale();
        return port.lines;
    }

    public int fault(int what) {
        if (what == 0) {
            return reader.fault;
        }
        return what == 1 ? reader.place : NONE;
    }

    // ---- the port as told ----

    public int house(int house) {
        return port.isHouse(house) ? cell(port.high, house) : NO_SUCH;
    }

    public int carrier(int carrier, int what) {
        if (!port.isCarrier(carrier) || !isChoice(what)) {
            return NO_SUCH;
        }
        return cell(what == 0 ? port.carrierHouse : port.strong, carrier);
    }

    public int word(int slate, int i) {
        if (!port.isSlate(slate)) {
            return NO_SUCH;
        }
        return port.isWord(slate, i) ? cell(port.heavy, slate * WORDS + i) : NONE;
    }

    public int doors(int house) {
        return port.isHouse(house) ? port.doorsOf(house, NONE) : NO_SUCH;
    }

    public int far(int house, int other) {
        return port.areHouses(house, other) ? paths.fewestWays(port, house, other) : NO_SUCH;
    }

    public int climb(int house, int other) {
        return port.areHouses(house, other) ? paths.leastClimb(port, house, other) : NO_SUCH;
    }

    // ---- day by day ----

    public int at(int carrier, int day) {
        if (!port.isCarrier(carrier) || !port.isDay(day)) {
            return NO_SUCH;
        }
        return today().carrierOn(carrier, day);
    }

    public int lies(int slate, int day) {
        return isSlateOn(slate, day) ? today().slateOn(slate, day) : NO_SUCH;
    }

    public int left(int slate, int day) {
        return isSlateOn(slate, day) ? today().leftOn(slate, day) : NO_SUCH;
    }

    public int weight(int slate, int day) {
        return isSlateOn(slate, day) ? port.weightOf(slate, today().leftOn(slate, day)) : NO_SUCH;
    }

    public int knows(int house, int slate, int day) {
        if (!port.isHouse(house) || !isSlateOn(slate, day)) {
            return NO_SUCH;
        }
        return today().knownOn(house, slate, day);
    }

    public int heard(int slate, int day) {
        return isSlateOn(slate, day) ? today().hearersOn(port, slate, day) : NO_SUCH;
    }

    public int full(int slate, int day) {
        if (!isSlateOn(slate, day)) {
            return NO_SUCH;
        }
        int houses = 0;
        for (int h = 0; h < port.houses; h++) {
            if (today().knownOn(h, slate, day) == port.allWords(slate)) {
                houses |= 1 << h;
            }
        }
        return houses;
    }

    public int when(int house, int slate) {
        if (!port.isHouse(house) || !port.isSlate(slate)) {
            return NO_SUCH;
        }
        for (int day = 0; day <= port.days; day++) {
            if (today().knownOn(house, slate, day) != 0) {
                return day;
            }
        }
        return NONE;
    }

    // ---- carries ----

    public int done(int carry) {
        if (!port.isCarry(carry)) {
            return NO_SUCH;
        }
        return today().reasonOf(carry) == 0 ? 1 : 0;
    }

    public int dones() {
        if (!port.isTold()) {
            return NO_SUCH;
        }
        int carries = 0;
        for (int i = 0; i < port.carries.size; i++) {
            if (today().reasonOf(i) == 0) {
                carries |= 1 << i;
            }
        }
        return carries;
    }

    public int why(int carry) {
        return port.isCarry(carry) ? today().reasonOf(carry) : NO_SUCH;
    }

    public int load(int carry) {
        return port.isCarry(carry) ? today().loadOf(carry) : NO_SUCH;
    }

    public int idle(int day) {
        if (!port.isDayAhead(day)) {
            return NO_SUCH;
        }
        return port.allCarriers() & ~today().outOn(day);
    }

    public int moves(int slate) {
        return port.isSlate(slate) ? today().countDone(port.carries.slate, slate, port.carries.size) : NO_SUCH;
    }

    public int trips(int carrier) {
        return port.isCarrier(carrier) ? today().countDone(port.carries.carrier, carrier, port.carries.size) : NO_SUCH;
    }

    public int toil(int carrier) {
        if (!port.isCarrier(carrier)) {
            return NO_SUCH;
        }
        int together = 0;
        for (int i = 0; i < port.carries.size; i++) {
            if (cell(port.carries.carrier, i) == carrier && today().reasonOf(i) == 0) {
                together += today().loadOf(i);
            }
        }
        return together;
    }

    // ---- on the last day ----

    public int rubbed(int slate) {
        if (!port.isSlate(slate)) {
            return NO_SUCH;
        }
        return Integer.bitCount(port.allWords(slate) & ~today().leftOn(slate, port.days));
    }

    public int gossip() {
        if (!port.isTold()) {
            return NO_SUCH;
        }
        Diary diary = today();
        int best = NONE;
        int most = NONE;
        for (int h = 0; h < port.houses; h++) {
            int known = 0;
            for (int s = 0; s < port.slates; s++) {
                known += Integer.bitCount(diary.knownOn(h, s, port.days));
            }
            if (known > most) {
                most = known;
                best = h;
            }
        }
        return best;
    }

    public int famous() {
        if (!port.isTold()) {
            return NO_SUCH;
        }
        Diary diary = today();
        int best = NONE;
        int most = NONE;
        for (int s = 0; s < port.slates; s++) {
            int hearers = Integer.bitCount(diary.hearersOn(port, s, port.days));
            if (hearers > most) {
                most = hearers;
                best = s;
            }
        }
        return best;
    }

    // ---- one carrier alone, and carts ----

    public int brings(int carrier, int slate, int house) {
        if (!areAlone(carrier, slate) || !port.isHouse(house)) {
            return NO_SUCH;
        }
        alone.search(port, slate, cell(port.strong, carrier));
        return cell(alone.soonest, house);
    }

    public int saves(int carrier, int slate, int house) {
        if (!areAlone(carrier, slate) || !port.isHouse(house)) {
            return NO_SUCH;
        }
        alone.search(port, slate, cell(port.strong, carrier));
        return cell(alone.mostWords, house);
    }

    public int can(int carrier, int slate) {
        if (!areAlone(carrier, slate)) {
            return NO_SUCH;
        }
        alone.search(port, slate, cell(port.strong, carrier));
        return alone.housesReached();
    }

    public int needs(int slate, int house) {
        if (!port.isSlate(slate) || !port.isHouse(house)) {
            return NO_SUCH;
        }
        alone.findNeeds(port, slate);
        return cell(alone.needed, house);
    }

    public int porter(int slate, int house) {
        if (!port.isSlate(slate) || !port.isHouse(house)) {
            return NO_SUCH;
        }
        int best = NONE;
        int fewest = 0;
        for (int c = 0; c < port.carriers; c++) {
            alone.search(port, slate, cell(port.strong, c));
            int days = cell(alone.soonest, house);
            if (days != NONE && (best == NONE || days < fewest)) {
                best = c;
                fewest = days;
            }
        }
        return best;
    }

    public int tells(int carrier, int slate, int n) {
        if (!areAlone(carrier, slate) || n < 0 || n >= Alone.TOLD_DAYS) {
            return NO_SUCH;
        }
        alone.search(port, slate, cell(port.strong, carrier));
        return alone.mostHearers(port, slate, n);
    }

    public int cart(int set, int slate, int house) {
        if (!port.isCart(set) || !port.isSlate(slate) || !port.isHouse(house)) {
            return NO_SUCH;
        }
        alone.search(port, slate, port.strongTogether(set));
        return cell(alone.soonest, house);
    }

    public int four(int slate, int house) {
        if (!port.isSlate(slate) || !port.isHouse(house)) {
            return NO_SUCH;
        }
        alone.findNeeds(port, slate);
        int needed = cell(alone.needed, house);
        int best = NONE;
        if (needed == NONE) {
            return NONE;
        }
        for (int set = 1; set <= port.allCarriers(); set++) {
            boolean does = port.strongTogether(set) >= needed;
            if (does && (best == NONE || Integer.bitCount(set) < Integer.bitCount(best))) {
                best = set;
            }
        }
        return best;
    }

    public int share(int slate, int carrier, int what) {
        if (!areAlone(carrier, slate) || !isChoice(what)) {
            return NO_SUCH;
        }
        alone.findNeeds(port, slate);
        long more = 0;
        for (int set = 0; set <= port.allCarriers(); set++) {
            if (!hasBit(set, carrier)) {
                int gain = housesOfCart(set | 1 << carrier) - housesOfCart(set);
                more += (long) gain * ordersWith(Integer.bitCount(set));
            }
        }
        return (int) inLowestTerms(more, cell(FACTORIALS, port.carriers), what);
    }

    // ---- what would be otherwise ----

    public int block(int slate) {
        if (!port.isSlate(slate)) {
            return NO_SUCH;
        }
        int best = NONE;
        int fewest = Integer.bitCount(today().hearersOn(port, slate, port.days));
        for (int way = 0; way < port.ways; way++) {
            int hearers = Integer.bitCount(hearersWithout(slate, way));
            if (hearers < fewest) {
                fewest = hearers;
                best = way;
            }
        }
        return best;
    }

    public int by(int slate, int law) {
        return port.isSlate(slate) && isLaw(law) ? hearersBy(slate, law) : NO_SUCH;
    }

    public int law(int slate) {
        if (!port.isSlate(slate)) {
            return NO_SUCH;
        }
        int best = 0;
        int most = NONE;
        for (int law = 0; law < LAWS; law++) {
            int hearers = Integer.bitCount(hearersBy(slate, law));
            if (hearers > most) {
                most = hearers;
                best = law;
            }
        }
        return best;
    }

    public int firsts(int slot, int slate) {
        int wrong = seen.wrongRow(port, slots, slot, slate);
        if (wrong != 0) {
            return wrong;
        }
        seen.findFirsts(port, slots, slot, slate, whatIf);
        return seen.firstHouses;
    }

    public int ask(int slot, int slate) {
        int wrong = seen.wrongRow(port, slots, slot, slate);
        if (wrong != 0) {
            return wrong;
        }
        seen.findFirsts(port, slots, slot, slate, whatIf);
        return seen.bestDay(port);
    }

    public int leaves(int slot, int slate) {
        int wrong = seen.wrongRow(port, slots, slot, slate);
        if (wrong != 0) {
            return wrong;
        }
        seen.findFirsts(port, slots, slot, slate, whatIf);
        int day = seen.bestDay(port);
        return day == NONE ? Integer.bitCount(seen.firstHouses) : seen.leftAtWorst(day);
    }

    public int laws(int slot, int slate) {
        int wrong = seen.wrongRow(port, slots, slot, slate);
        if (wrong != 0) {
            return wrong;
        }
        int weighs = port.weightOf(slate, today().leftOn(slate, port.days));
        int laws = 0;
        for (int law = 0; law < LAWS; law++) {
            whatIf.course.setAsTold(port);
            whatIf.course.law = law;
            whatIf.fill(port);
            boolean asHeavy = port.weightOf(slate, whatIf.leftOn(slate, port.days)) == weighs;
            if (asHeavy && seen.isAsSeen(slots, slot, slate, whatIf)) {
                laws |= 1 << law;
            }
        }
        return laws;
    }

    public int beside(int slate) {
        if (!port.isSlate(slate)) {
            return NO_SUCH;
        }
        int best = NONE;
        int most = 0;
        for (int h = 0; h < port.houses; h++) {
            int known = Integer.bitCount(today().knownOn(h, slate, port.days));
            if (h != cell(port.slateHouse, slate) && known > most) {
                most = known;
                best = h;
            }
        }
        return best;
    }

    public int rests(int slate, int house, int other) {
        if (!isGame(slate, house, other)) {
            return NO_SUCH;
        }
        for (int pair = 0; pair < PAIRS; pair++) {
            shutBy(house, pair & FIRST_SHUTS, other, pair & OTHER_SHUTS);
            put(gains, pair, gainOf(slate, house));
            put(otherGains, pair, gainOf(slate, other));
        }
        int pairs = 0;
        for (int pair = 0; pair < PAIRS; pair++) {
            boolean firstStays = cell(gains, pair) >= cell(gains, pair ^ FIRST_SHUTS);
            boolean otherStays = cell(otherGains, pair) >= cell(otherGains, pair ^ OTHER_SHUTS);
            if (firstStays && otherStays) {
                pairs |= 1 << pair;
            }
        }
        return pairs;
    }

    public int gets(int slate, int house, int other, int shuts, int otherShuts) {
        if (!isGame(slate, house, other) || !isChoice(shuts) || !isChoice(otherShuts)) {
            return NO_GAME;
        }
        shutBy(house, shuts, other, otherShuts);
        return gainOf(slate, house);
    }

    // ---- rain ----

    public int chance(int slate, int house, int what) {
        if (!port.isSlate(slate) || !port.isHouse(house) || !isChoice(what)) {
            return NO_SUCH;
        }
        if (port.days > MOST_RAIN_DAYS) {
            return BEYOND;
        }
        weather.fill(port, whatIf.course);
        return (int) inLowestTerms(weather.likelyKnown(house, slate), weather.whole, what);
    }

    public long mean(int slate, int what) {
        if (!port.isSlate(slate) || !isChoice(what)) {
            return NO_SUCH;
        }
        if (port.days > MOST_RAIN_DAYS) {
            return BEYOND;
        }
        weather.fill(port, whatIf.course);
        return inLowestTerms(weather.wordsLeft(slate), weather.whole, what);
    }

    // ---- acts ----

    public int carry(int carrier, int slate, int house, int day) {
        if (!areAlone(carrier, slate) || !port.isHouse(house) || !port.isDayAhead(day)) {
            return NO_SUCH;
        }
        if (port.carries.acts >= ACTS) {
            return BY_ACTS;
        }
        port.carries.add(carrier, slate, house, day);
        port.carries.addAct(NONE, NONE);
        makeStale();
        return today().reasonOf(port.carries.size - 1) == 0 ? 1 : 0;
    }

    public int rub(int slate, int i) {
        if (!port.isSlate(slate) || !port.isWord(slate, i)) {
            return NO_SUCH;
        }
        if (port.carries.acts >= ACTS) {
            return BY_ACTS;
        }
        boolean wasLeft = hasBit(port.leftAtFirst(slate), i);
        port.carries.addAct(slate, i);
        makeStale();
        return wasLeft ? 1 : 0;
    }

    public int undo() {
        if (!port.isTold()) {
            return NO_SUCH;
        }
        if (port.carries.acts == 0) {
            return BY_ACTS;
        }
        port.carries.takeBack();
        makeStale();
        return port.carries.acts;
    }

    public int anew() {
        if (!port.isTold()) {
            return NO_SUCH;
        }
        int were = port.carries.acts;
        port.carries.acts = 0;
        port.carries.size = port.carries.told;
        makeStale();
        return were;
    }

    public int drawn(int seed, int what) {
        if (!port.isTold() || !isSeed(seed) || !isChoice(what)) {
            return NO_SUCH;
        }
        int rain = weather.rainDrawn(port, seed);
        if (what == 0) {
            return rain;
        }
        runInRain(rain);
        int words = 0;
        for (int s = 0; s < port.slates; s++) {
            words += Integer.bitCount(cell(whatIf.course.left, s));
        }
        return words;
    }

    public int luck(int seed, int n, int slate, int house) {
        boolean areTold = port.isSlate(slate) && port.isHouse(house);
        if (!areTold || !isSeed(seed) || n < 1 || n > MOST_LUCK) {
            return NO_SUCH;
        }
        int times = 0;
        for (int i = 0; i < n; i++) {
            runInRain(weather.rainDrawn(port, (long) seed + i));
            if (whatIf.course.knownBy(house, slate) != 0) {
                times++;
            }
        }
        return times;
    }

    public int rate(int carrier, int n) {
        if (!port.isCarrier(carrier) || n < 0 || n > MOST_STRONG) {
            return NO_SUCH;
        }
        if (port.carries.acts > 0) {
            return BY_ACTS;
        }
        int was = cell(port.strong, carrier);
        put(port.strong, carrier, n);
        makeStale();
        return was;
    }

    // ---- the object ----

    public int count(int what) {
        switch (what) {
            case 0: return port.days;
            case 1: return port.law;
            case 2: return port.odds;
            case 3: return port.houses;
            case 4: return port.ways;
            case 5: return port.carriers;
            case 6: return port.slates;
            case 7: return port.carries.told;
            case 8: return port.carries.acts;
            case 9: return port.lines;
            case 10: return tape.size;
            case 11: return slots.howMany();
            default: return NONE;
        }
    }

    public int image(int k) {
        if (k < 0 || k >= images.length) {
            return NO_SUCH;
        }
        if (images[k] == null) {
            images[k] = new Port();
        }
        images[k].copy(port);
        return 0;
    }

    public int back(int k) {
        if (k < 0 || k >= images.length) {
            return NO_SUCH;
        }
        if (images[k] == null) {
            return EMPTY;
        }
        port.copy(images[k]);
        makeStale();
        return 0;
    }

    public int row(int slot, int width, int n) {
        return slots.make(slot, width, n);
    }

    public int write(int slot, int i, long v) {
        return slots.set(slot, i, v);
    }

    public int paste(int slot, int i, int to, int k, int n) {
        return slots.move(slot, i, to, k, n);
    }

    // ---- what the methods above share ----

    private static int cell(int[] cells, int i) {
        return cells != null && i >= 0 && i < cells.length ? cells[i] : 0;
    }

    private static void put(int[] cells, int i, int value) {
        if (cells != null && i >= 0 && i < cells.length) {
            cells[i] = value;
        }
    }

    private static boolean hasBit(int bits, int i) {
        return i >= 0 && i < 32 && (bits >>> i & 1) != 0;
    }

    private static boolean isChoice(int what) {
        return what == 0 || what == 1;
    }

    private static boolean isLaw(int law) {
        return law >= 0 && law < LAWS;
    }

    private static boolean isSeed(int seed) {
        return seed >= 0 && seed <= MOST_SEED;
    }

    private static long inLowestTerms(long above, long below, int what) {
        long divisor = below;
        long rest = above;
        // Euclid's steps on numbers of 63 bits end within 100.
        for (int i = 0; i < 100 && rest != 0; i++) {
            long next = divisor % rest;
            divisor = rest;
            rest = next;
        }
        if (divisor == 0) {
            return 0;
        }
        return (what == 0 ? above : below) / divisor;
    }

    private void makeStale() {
        now.fresh = false;
        weather.fresh = false;
        alone.forget();
    }

    private Diary today() {
        if (!now.fresh) {
            now.course.setAsTold(port);
            now.fill(port);
            now.fresh = true;
        }
        return now;
    }

    private void runInRain(int rain) {
        whatIf.course.setAsTold(port);
        whatIf.course.rain = rain;
        whatIf.course.runThrough(port);
    }

    private boolean isSlateOn(int slate, int day) {
        return port.isSlate(slate) && port.isDay(day);
    }

    private boolean areAlone(int carrier, int slate) {
        return port.isCarrier(carrier) && port.isSlate(slate);
    }

    private boolean isGame(int slate, int house, int otherHouse) {
        return port.isSlate(slate) && port.areHouses(house, otherHouse) && house != otherHouse;
    }

    private int hearersWithout(int slate, int way) {
        whatIf.course.setAsTold(port);
        whatIf.course.lostWay = way;
        whatIf.fill(port);
        return whatIf.hearersOn(port, slate, port.days);
    }

    private int hearersBy(int slate, int law) {
        whatIf.course.setAsTold(port);
        whatIf.course.law = law;
        whatIf.fill(port);
        return whatIf.hearersOn(port, slate, port.days);
    }

    private void shutBy(int house, int shuts, int otherHouse, int otherShuts) {
        whatIf.course.setAsTold(port);
        whatIf.course.shut = (shuts == 0 ? 0 : 1 << house) | (otherShuts == 0 ? 0 : 1 << otherHouse);
        whatIf.course.runThrough(port);
    }

    private int gainOf(int slate, int house) {
        int words = Integer.bitCount(whatIf.course.knownBy(house, slate));
        return words + (hasBit(whatIf.course.shut, house) ? FOR_SHUTTING : 0);
    }

    private int housesOfCart(int set) {
        return set == 0 ? 1 : alone.housesFor(port.strongTogether(set));
    }

    private int ordersWith(int ahead) {
        return cell(FACTORIALS, ahead) * cell(FACTORIALS, port.carriers - ahead - 1);
    }

    /** The CARRIES, told ones first, and the acts in their order: all that is carried. */
    private static final class Carries {
        int told;
        int size;
        int acts;
        final int[] carrier = new int[CARRIES];
        final int[] slate = new int[CARRIES];
        final int[] house = new int[CARRIES];
        final int[] day = new int[CARRIES];
        // An act that is a CARRY has NONE for its word.
        final int[] actSlate = new int[ACTS];
        final int[] actWord = new int[ACTS];

        void clear() {
            told = 0;
            size = 0;
            acts = 0;
        }

        void copy(Carries from) {
            if (from == null) {
                return;
            }
            told = from.told;
            size = from.size;
            acts = from.acts;
            System.arraycopy(from.carrier, 0, carrier, 0, CARRIES);
            System.arraycopy(from.slate, 0, slate, 0, CARRIES);
            System.arraycopy(from.house, 0, house, 0, CARRIES);
            System.arraycopy(from.day, 0, day, 0, CARRIES);
            System.arraycopy(from.actSlate, 0, actSlate, 0, ACTS);
            System.arraycopy(from.actWord, 0, actWord, 0, ACTS);
        }

        void add(int byCarrier, int ofSlate, int toHouse, int onDay) {
            if (size >= CARRIES) {
                return;
            }
            put(carrier, size, byCarrier);
            put(slate, size, ofSlate);
            put(house, size, toHouse);
            put(day, size, onDay);
            size++;
        }

        void addAct(int ofSlate, int word) {
            if (acts >= ACTS) {
                return;
            }
            put(actSlate, acts, ofSlate);
            put(actWord, acts, word);
            acts++;
        }

        void takeBack() {
            if (acts <= 0) {
                return;
            }
            acts--;
            // The latest act that is a CARRY is always the last of all CARRIES.
            if (cell(actWord, acts) == NONE && size > told) {
                size--;
            }
        }

        int rubbedByActs(int ofSlate) {
            int words = 0;
            for (int i = 0; i < acts && i < ACTS; i++) {
                if (cell(actWord, i) != NONE && cell(actSlate, i) == ofSlate) {
                    words |= 1 << cell(actWord, i);
                }
            }
            return words;
        }
    }

    /** What was told, and the acts: what an IMAGE keeps. Without LINES there is no PORT. */
    private static final class Port {
        int lines;
        int days;
        int law;
        int odds;
        int houses;
        int ways;
        int carriers;
        int slates;
        final int[] high = new int[HOUSES];
        final int[] wayFrom = new int[WAYS];
        final int[] wayTo = new int[WAYS];
        final int[] carrierHouse = new int[CARRIERS];
        final int[] strong = new int[CARRIERS];
        final int[] slateHouse = new int[SLATES];
        final int[] words = new int[SLATES];
        final int[] heavy = new int[SLATES * WORDS];
        final Carries carries = new Carries();

        void clear() {
            lines = 0;
            days = 0;
            law = 0;
            odds = 0;
            houses = 0;
            ways = 0;
            carriers = 0;
            slates = 0;
            carries.clear();
        }

        void copy(Port from) {
            if (from == null) {
                return;
            }
            lines = from.lines;
            days = from.days;
            law = from.law;
            odds = from.odds;
            houses = from.houses;
            ways = from.ways;
            carriers = from.carriers;
            slates = from.slates;
            System.arraycopy(from.high, 0, high, 0, HOUSES);
            System.arraycopy(from.wayFrom, 0, wayFrom, 0, WAYS);
            System.arraycopy(from.wayTo, 0, wayTo, 0, WAYS);
            System.arraycopy(from.carrierHouse, 0, carrierHouse, 0, CARRIERS);
            System.arraycopy(from.strong, 0, strong, 0, CARRIERS);
            System.arraycopy(from.slateHouse, 0, slateHouse, 0, SLATES);
            System.arraycopy(from.words, 0, words, 0, SLATES);
            System.arraycopy(from.heavy, 0, heavy, 0, SLATES * WORDS);
            carries.copy(from.carries);
        }

        boolean isTold() {
            return lines > 0;
        }

        boolean isHouse(int house) {
            return house >= 0 && house < houses;
        }

        boolean areHouses(int house, int other) {
            return isHouse(house) && isHouse(other);
        }

        boolean isCarrier(int carrier) {
            return carrier >= 0 && carrier < carriers;
        }

        boolean isSlate(int slate) {
            return slate >= 0 && slate < slates;
        }

        boolean isWord(int slate, int i) {
            return i >= 0 && i < cell(words, slate);
        }

        boolean isCarry(int carry) {
            return carry >= 0 && carry < carries.size;
        }

        boolean isDay(int day) {
            return isTold() && day >= 0 && day <= days;
        }

        boolean isDayAhead(int day) {
            return day >= 0 && day < days;
        }

        boolean isCart(int set) {
            return set > 0 && set <= allCarriers();
        }

        int busyDays() {
            int busy = 0;
            for (int i = 0; i < carries.size; i++) {
                int day = cell(carries.day, i);
                busy |= isDayAhead(day) ? 1 << day : 0;
            }
            return busy;
        }

        int allCarriers() {
            return (1 << carriers) - 1;
        }

        int allWords(int slate) {
            return (1 << cell(words, slate)) - 1;
        }

        int leftAtFirst(int slate) {
            return allWords(slate) & ~carries.rubbedByActs(slate);
        }

        int weightOf(int slate, int left) {
            int together = 0;
            for (int i = 0; i < WORDS; i++) {
                if (hasBit(left, i)) {
                    together += cell(heavy, slate * WORDS + i);
                }
            }
            return together;
        }

        int strongTogether(int set) {
            int together = 0;
            for (int c = 0; c < carriers; c++) {
                if (hasBit(set, c)) {
                    together += cell(strong, c);
                }
            }
            return together;
        }

        int doorsOf(int house, int lostWay) {
            int doors = 0;
            for (int way = 0; way < ways && way < WAYS; way++) {
                int from = cell(wayFrom, way);
                int to = cell(wayTo, way);
                if (way != lostWay && from == house) {
                    doors |= 1 << to;
                }
                if (way != lostWay && to == house) {
                    doors |= 1 << from;
                }
            }
            return doors;
        }

        int climbTo(int from, int to) {
            return Math.max(0, cell(high, to) - cell(high, from));
        }

        int leftByLaw(int slate, int left, int byLaw) {
            int rubbed = 0;
            int most = 0;
            for (int i = 0; i < WORDS; i++) {
                int weighs = hasBit(left, i) ? cell(heavy, slate * WORDS + i) : 0;
                boolean isFirst = byLaw == 1 && rubbed == 0;
                boolean isHeaviest = byLaw == 2 && weighs > most;
                if (weighs > 0 && (isFirst || isHeaviest || byLaw == 3)) {
                    rubbed = 1 << i;
                    most = weighs;
                }
            }
            return left & ~rubbed;
        }
    }

    /** The bytes told so far, and the TOKEN read last. */
    private static final class Tape {
        static final int END = 0;
        static final int WORD = 1;
        static final int NUMBER = 2;
        static final int SIGN = 3;
        static final int OTHER = 4;
        // Above every bound told, so longer numbers need not be told apart.
        private static final int HUGE = 1000;

        private final byte[] bytes = new byte[MOST_BYTES];
        int size;
        int kind;
        int start;
        int number;
        private int behind;

        void add(int four) {
            for (int shift = 24; shift >= 0; shift -= 8) {
                if (size >= 0 && size < bytes.length) {
                    bytes[size] = (byte) (four >> shift);
                    size++;
                }
            }
        }

        void rewind() {
            behind = 0;
        }

        void next() {
            start = behind;
            while (start < size && isBlank(byteAt(start))) {
                start++;
            }
            behind = start;
            number = 0;
            if (start >= size) {
                kind = END;
                return;
            }
            kind = kindOf(byteAt(start));
            boolean isLong = kind == WORD || kind == NUMBER;
            do {
                if (kind == NUMBER) {
                    number = Math.min(HUGE, number * 10 + byteAt(behind) - '0');
                }
                behind++;
            } while (isLong && behind < size && kindOf(byteAt(behind)) == kind);
        }

        boolean isAt(String word) {
            if (kind != WORD || behind - start != word.length()) {
                return false;
            }
            for (int i = 0; i < word.length(); i++) {
                if (byteAt(start + i) != word.charAt(i)) {
                    return false;
                }
            }
            return true;
        }

        private int byteAt(int i) {
            return i >= 0 && i < size && i < bytes.length ? bytes[i] : 0;
        }

        private static int kindOf(int sign) {
            if (sign >= 'a' && sign <= 'z') {
                return WORD;
            }
            if (sign >= '0' && sign <= '9') {
                return NUMBER;
            }
            return sign == ';' ? SIGN : OTHER;
        }

        private static boolean isBlank(int sign) {
            return sign == 32 || sign == 10;
        }
    }

    /** Reads LINES from a TAPE; keeps the FAULT of the latest reading. */
    private static final class Reader {
        private static final int CANNOT_STAND = 1;
        private static final int OUT_OF_BOUNDS = 2;
        private static final int TOO_MANY = 3;

        int fault;
        int place = NONE;

        boolean read(Tape tape, Port port) {
            fault = 0;
            place = NONE;
            port.clear();
            tape.rewind();
            tape.next();
            for (int i = 0; i <= MOST_BYTES && tape.kind != Tape.END; i++) {
                if (!readLine(tape, port) || !readSign(tape)) {
                    return false;
                }
                port.lines++;
            }
            port.carries.told = port.carries.size;
            return true;
        }

        private boolean readLine(Tape tape, Port port) {
            if (port.lines == 0) {
                return readPort(tape, port);
            }
            if (tape.isAt("house")) {
                return hasRoom(tape, port.houses, HOUSES) && readHouse(tape, port);
            }
            if (tape.isAt("way")) {
                return hasRoom(tape, port.ways, WAYS) && readWay(tape, port);
            }
            if (tape.isAt("carrier")) {
                return hasRoom(tape, port.carriers, CARRIERS) && readCarrier(tape, port);
            }
            if (tape.isAt("slate")) {
                return hasRoom(tape, port.slates, SLATES) && readSlate(tape, port);
            }
            if (tape.isAt("carry")) {
                return hasRoom(tape, port.carries.size, CARRIES_TOLD) && readCarry(tape, port);
            }
            return fail(tape, CANNOT_STAND);
        }

        private boolean readPort(Tape tape, Port port) {
            if (!readWord(tape, "port")) {
                return false;
            }
            port.days = readAmount(tape, "days", 1, MOST_DAYS);
            if (fault == 0) {
                port.law = readAmount(tape, "law", 0, LAWS - 1);
            }
            if (fault == 0) {
                port.odds = readAmount(tape, "odds", 0, MOST_ODDS);
            }
            return fault == 0;
        }

        private boolean readHouse(Tape tape, Port port) {
            tape.next();
            put(port.high, port.houses, readAmount(tape, "high", 0, MOST_HIGH));
            port.houses++;
            return fault == 0;
        }

        private boolean readWay(Tape tape, Port port) {
            tape.next();
            int from = readNumber(tape, 0, port.houses - 1);
            if (fault != 0) {
                return false;
            }
            if (tape.kind == Tape.NUMBER && tape.number == from) {
                return fail(tape, OUT_OF_BOUNDS);
            }
            put(port.wayFrom, port.ways, from);
            put(port.wayTo, port.ways, readNumber(tape, 0, port.houses - 1));
            port.ways++;
            return fault == 0;
        }

        private boolean readCarrier(Tape tape, Port port) {
            tape.next();
            put(port.carrierHouse, port.carriers, readAmount(tape, "at", 0, port.houses - 1));
            if (fault != 0) {
                return false;
            }
            put(port.strong, port.carriers, readAmount(tape, "strong", 0, MOST_STRONG));
            port.carriers++;
            return fault == 0;
        }

        private boolean readSlate(Tape tape, Port port) {
            tape.next();
            int slate = port.slates;
            put(port.slateHouse, slate, readAmount(tape, "at", 0, port.houses - 1));
            int words = 0;
            // The first WORD must stand, so it is read without looking for it.
            while (fault == 0 && words <= WORDS && (words == 0 || tape.isAt("word"))) {
                if (!hasRoom(tape, words, WORDS)) {
                    return false;
                }
                put(port.heavy, slate * WORDS + words, readAmount(tape, "word", 1, MOST_HEAVY));
                words++;
            }
            put(port.words, slate, words);
            port.slates++;
            return fault == 0;
        }

        private boolean readCarry(Tape tape, Port port) {
            tape.next();
            int carrier = readNumber(tape, 0, port.carriers - 1);
            int slate = fault == 0 ? readNumber(tape, 0, port.slates - 1) : NONE;
            int house = fault == 0 ? readAmount(tape, "to", 0, port.houses - 1) : NONE;
            int day = fault == 0 ? readAmount(tape, "at", 0, MOST_DAYS - 1) : NONE;
            if (fault != 0) {
                return false;
            }
            port.carries.add(carrier, slate, house, day);
            return true;
        }

        private boolean readSign(Tape tape) {
            if (tape.kind != Tape.SIGN) {
                return fail(tape, CANNOT_STAND);
            }
            tape.next();
            return true;
        }

        private boolean readWord(Tape tape, String word) {
            if (!tape.isAt(word)) {
                return fail(tape, CANNOT_STAND);
            }
            tape.next();
            return true;
        }

        private int readAmount(Tape tape, String word, int least, int most) {
            return readWord(tape, word) ? readNumber(tape, least, most) : NONE;
        }

        private int readNumber(Tape tape, int least, int most) {
            int number = tape.number;
            if (tape.kind != Tape.NUMBER) {
                fail(tape, CANNOT_STAND);
                return NONE;
            }
            if (number < least || number > most) {
                fail(tape, OUT_OF_BOUNDS);
                return NONE;
            }
            tape.next();
            return number;
        }

        private boolean hasRoom(Tape tape, int count, int most) {
            return count < most || fail(tape, TOO_MANY);
        }

        private boolean fail(Tape tape, int what) {
            if (fault == 0) {
                fault = what;
                place = tape.start;
            }
            return false;
        }
    }

    /** Ways between HOUSES, without anything that is carried. */
    private static final class Paths {
        private final int[] climbs = new int[HOUSES];

        int fewestWays(Port port, int from, int to) {
            int reached = 1 << from;
            for (int ways = 0; ways < HOUSES; ways++) {
                if (hasBit(reached, to)) {
                    return ways;
                }
                reached |= nextTo(port, reached);
            }
            return NONE;
        }

        int leastClimb(Port port, int from, int to) {
            Arrays.fill(climbs, NONE);
            put(climbs, from, 0);
            // Least climbs pass no HOUSE twice, so as many rounds as HOUSES settle them.
            for (int round = 0; round < HOUSES; round++) {
                for (int way = 0; way < port.ways; way++) {
                    improve(port, cell(port.wayFrom, way), cell(port.wayTo, way));
                    improve(port, cell(port.wayTo, way), cell(port.wayFrom, way));
                }
            }
            return cell(climbs, to);
        }

        private static int nextTo(Port port, int houses) {
            int next = 0;
            for (int h = 0; h < port.houses; h++) {
                if (hasBit(houses, h)) {
                    next |= port.doorsOf(h, NONE);
                }
            }
            return next;
        }

        private void improve(Port port, int from, int to) {
            int start = cell(climbs, from);
            int before = cell(climbs, to);
            int climb = start + port.climbTo(from, to);
            if (start != NONE && (before == NONE || climb < before)) {
                put(climbs, to, climb);
            }
        }
    }

    /** One course of the DAYS: of the PORT as told, or with something in it otherwise. */
    private static final class Course {
        private static final int NO_DAY = 1;
        private static final int OUT_ALREADY = 2;
        private static final int APART = 3;
        private static final int NO_WAY = 4;
        private static final int TOO_HEAVY = 5;

        int law;
        int lostWay;
        int shut;
        int rain;
        int movedSlate;
        int movedHouse;
        int carriersOut;
        private int slatesOut;
        final int[] carrierHouse = new int[CARRIERS];
        final int[] slateHouse = new int[SLATES];
        final int[] left = new int[SLATES];
        final int[] known = new int[SLATES * HOUSES];
        private final int[] been = new int[SLATES];
        final int[] reason = new int[CARRIES];
        final int[] load = new int[CARRIES];

        void setAsTold(Port port) {
            law = port.law;
            lostWay = NONE;
            shut = 0;
            rain = 0;
            movedSlate = NONE;
            movedHouse = NONE;
        }

        void begin(Port port) {
            Arrays.fill(known, 0);
            Arrays.fill(reason, NO_DAY);
            Arrays.fill(load, NONE);
            for (int c = 0; c < port.carriers; c++) {
                put(carrierHouse, c, cell(port.carrierHouse, c));
            }
            for (int s = 0; s < port.slates; s++) {
                int house = s == movedSlate ? movedHouse : cell(port.slateHouse, s);
                put(slateHouse, s, house);
                put(left, s, port.leftAtFirst(s));
                put(been, s, 1 << house);
                put(known, s * HOUSES + house, cell(left, s));
            }
        }

        void passDay(Port port, int day) {
            carriersOut = 0;
            slatesOut = 0;
            for (int i = 0; i < port.carries.size && i < CARRIES; i++) {
                if (cell(port.carries.day, i) == day) {
                    int why = hindrance(port, i);
                    put(reason, i, why);
                    if (why == 0) {
                        carryOut(port, i, hasBit(rain, day));
                    }
                }
            }
        }

        void runThrough(Port port) {
            begin(port);
            for (int day = 0; day < port.days; day++) {
                passDay(port, day);
            }
        }

        int knownBy(int house, int slate) {
            return cell(known, slate * HOUSES + house);
        }

        private int hindrance(Port port, int i) {
            int carrier = cell(port.carries.carrier, i);
            int slate = cell(port.carries.slate, i);
            int house = cell(port.carries.house, i);
            int from = cell(slateHouse, slate);
            if (hasBit(carriersOut, carrier) || hasBit(slatesOut, slate)) {
                return OUT_ALREADY;
            }
            if (cell(carrierHouse, carrier) != from) {
                return APART;
            }
            if (hasBit(shut, house) || !hasBit(port.doorsOf(from, lostWay), house)) {
                return NO_WAY;
            }
            return loadTo(port, slate, house) > cell(port.strong, carrier) ? TOO_HEAVY : 0;
        }

        private int loadTo(Port port, int slate, int house) {
            int words = port.weightOf(slate, cell(left, slate));
            return words + port.climbTo(cell(slateHouse, slate), house);
        }

        private void carryOut(Port port, int i, boolean inRain) {
            int carrier = cell(port.carries.carrier, i);
            int slate = cell(port.carries.slate, i);
            int house = cell(port.carries.house, i);
            put(load, i, loadTo(port, slate, house));
            carriersOut |= 1 << carrier;
            slatesOut |= 1 << slate;
            put(carrierHouse, carrier, house);
            put(slateHouse, slate, house);
            int words = cell(left, slate);
            if (inRain) {
                words &= words - 1;
            }
            int place = slate * HOUSES + house;
            put(known, place, cell(known, place) | words);
            if (!hasBit(cell(been, slate), house)) {
                put(been, slate, cell(been, slate) | 1 << house);
                words = port.leftByLaw(slate, words, law);
            }
            put(left, slate, words);
        }
    }

    /** A Course written down DAY by DAY, each ahead of its CARRIES. */
    private static final class Diary {
        private static final int PAGES = MOST_DAYS + 1;

        boolean fresh;
        final Course course = new Course();
        private final int[] carrierHouse = new int[PAGES * CARRIERS];
        private final int[] slateHouse = new int[PAGES * SLATES];
        private final int[] left = new int[PAGES * SLATES];
        private final int[] known = new int[PAGES * SLATES * HOUSES];
        private final int[] carriersOut = new int[PAGES];

        void fill(Port port) {
            course.begin(port);
            for (int day = 0; day <= port.days && day < PAGES; day++) {
                note(day);
                if (day < port.days) {
                    course.passDay(port, day);
                    put(carriersOut, day, course.carriersOut);
                }
            }
        }

        int carrierOn(int carrier, int day) {
            return cell(carrierHouse, day * CARRIERS + carrier);
        }

        int slateOn(int slate, int day) {
            return cell(slateHouse, day * SLATES + slate);
        }

        int leftOn(int slate, int day) {
            return cell(left, day * SLATES + slate);
        }

        int knownOn(int house, int slate, int day) {
            return cell(known, (day * SLATES + slate) * HOUSES + house);
        }

        int hearersOn(Port port, int slate, int day) {
            int houses = 0;
            for (int h = 0; h < port.houses; h++) {
                if (knownOn(h, slate, day) != 0) {
                    houses |= 1 << h;
                }
            }
            return houses;
        }

        int outOn(int day) {
            return cell(carriersOut, day);
        }

        int reasonOf(int carry) {
            return cell(course.reason, carry);
        }

        int loadOf(int carry) {
            return cell(course.load, carry);
        }

        /** How many CARRIES are done of those whose carrier, or slate, has this number. */
        int countDone(int[] whose, int number, int carries) {
            int times = 0;
            for (int i = 0; i < carries; i++) {
                if (cell(whose, i) == number && reasonOf(i) == 0) {
                    times++;
                }
            }
            return times;
        }

        private void note(int day) {
            if (day < 0 || day >= PAGES) {
                return;
            }
            System.arraycopy(course.carrierHouse, 0, carrierHouse, day * CARRIERS, CARRIERS);
            System.arraycopy(course.slateHouse, 0, slateHouse, day * SLATES, SLATES);
            System.arraycopy(course.left, 0, left, day * SLATES, SLATES);
            System.arraycopy(course.known, 0, known, day * SLATES * HOUSES, SLATES * HOUSES);
        }
    }

    /**
     * Where a SLATE can be brought by one CARRIER, or a CART, with others aside. The WORDS left
     * depend on how many HOUSES the SLATE has been in alone, so where it is and where it has been
     * is all that must be told apart.
     */
    private static final class Alone {
        static final int TOLD_DAYS = 8;
        private static final int SETS = 1 << HOUSES;
        // Of a state: the HOUSE in the lowest bits, where it has been, the DAYS above.
        private static final int SET_SHIFT = 3;
        private static final int DAYS_SHIFT = SET_SHIFT + HOUSES;
        private static final int STATES = SETS * HOUSES;
        // Each state but the first is awaited by a WAY, there or back, from one of before; and
        // where it lies at first is in half of the sets alone.
        private static final int MOST_AWAITED = SETS / 2 * WAYS * 2 + 1;
        private static final int LOADS = WORDS * MOST_HEAVY + MOST_HIGH + 1;

        final int[] soonest = new int[HOUSES];
        final int[] mostWords = new int[HOUSES];
        final int[] needed = new int[HOUSES];
        private final int[] mostHouses = new int[TOLD_DAYS];
        private final int[] weights = new int[HOUSES + 1];
        private final int[] words = new int[HOUSES + 1];
        private final int[] doors = new int[HOUSES];
        private final int[] seenAt = new int[SETS];
        private final int[] queue = new int[STATES];
        private int queued;
        // By how strong one must be: the latest state awaited, and behind each the one before it.
        private final int[] firstAwaited = new int[LOADS];
        private final int[] nextAwaited = new int[MOST_AWAITED];
        private final int[] awaited = new int[MOST_AWAITED];
        private int awaitedInAll;
        private int searchedSlate = NONE;
        private int searchedStrong = NONE;
        private int neededSlate = NONE;

        /** What was found holds until the PORT, or what was done to it, is another. */
        void forget() {
            searchedSlate = NONE;
            neededSlate = NONE;
        }

        void search(Port port, int slate, int strong) {
            if (searchedSlate == slate && searchedStrong == strong) {
                return;
            }
            searchedSlate = slate;
            searchedStrong = strong;
            prepare(port, slate);
            Arrays.fill(soonest, NONE);
            Arrays.fill(mostWords, NONE);
            Arrays.fill(mostHouses, 0);
            queued = 0;
            int first = cell(port.slateHouse, slate);
            put(soonest, first, 0);
            put(mostWords, first, cell(words, 1));
            enter(first, 1 << first, 0);
            for (int i = 0; i < queued && i < queue.length; i++) {
                leave(port, queue[i], strong);
            }
        }

        /** The least strength for each HOUSE: states are settled by what they take, the least first. */
        void findNeeds(Port port, int slate) {
            if (neededSlate == slate) {
                return;
            }
            neededSlate = slate;
            prepare(port, slate);
            Arrays.fill(needed, NONE);
            Arrays.fill(firstAwaited, NONE);
            awaitedInAll = 0;
            int first = cell(port.slateHouse, slate);
            await(first | 1 << first << SET_SHIFT, 0);
            for (int strong = 0; strong < LOADS; strong++) {
                for (int i = 0; i < MOST_AWAITED && cell(firstAwaited, strong) != NONE; i++) {
                    int latest = cell(firstAwaited, strong);
                    put(firstAwaited, strong, cell(nextAwaited, latest));
                    settle(port, cell(awaited, latest), strong);
                }
            }
        }

        int housesReached() {
            int houses = 0;
            for (int h = 0; h < HOUSES; h++) {
                if (cell(soonest, h) != NONE) {
                    houses |= 1 << h;
                }
            }
            return houses;
        }

        int housesFor(int strong) {
            int houses = 0;
            for (int h = 0; h < HOUSES; h++) {
                if (cell(needed, h) != NONE && cell(needed, h) <= strong) {
                    houses++;
                }
            }
            return houses;
        }

        int mostHearers(Port port, int slate, int days) {
            int atFirst = Integer.bitCount(port.leftAtFirst(slate));
            if (atFirst == 0) {
                return 0;
            }
            int houses = 1;
            for (int n = 0; n <= days; n++) {
                houses = Math.max(houses, cell(mostHouses, n));
            }
            // Each HOUSE but the first rubs out a WORD by such a LAW; behind the last they hear none.
            return port.law == 0 ? houses : Math.min(houses, atFirst + 1);
        }

        private void prepare(Port port, int slate) {
            Arrays.fill(seenAt, 0);
            int left = port.leftAtFirst(slate);
            for (int been = 1; been <= HOUSES; been++) {
                put(weights, been, port.weightOf(slate, left));
                put(words, been, Integer.bitCount(left));
                left = port.leftByLaw(slate, left, port.law);
            }
            for (int h = 0; h < port.houses; h++) {
                put(doors, h, port.doorsOf(h, NONE));
            }
        }

        private boolean markSeen(int house, int set) {
            int there = cell(seenAt, set);
            put(seenAt, set, there | 1 << house);
            return !hasBit(there, house);
        }

        private void enter(int house, int set, int days) {
            if (!markSeen(house, set) || queued >= queue.length) {
                return;
            }
            put(queue, queued, house | set << SET_SHIFT | days << DAYS_SHIFT);
            queued++;
            if (days < TOLD_DAYS) {
                put(mostHouses, days, Math.max(cell(mostHouses, days), Integer.bitCount(set)));
            }
        }

        private void leave(Port port, int state, int strong) {
            int house = houseOf(state);
            int set = setOf(state);
            int days = (state >> DAYS_SHIFT) + 1;
            int been = Integer.bitCount(set);
            for (int to = 0; to < port.houses; to++) {
                boolean isDoor = hasBit(cell(doors, house), to);
                if (!isDoor || cell(weights, been) + port.climbTo(house, to) > strong) {
                    continue;
                }
                if (cell(soonest, to) == NONE) {
                    put(soonest, to, days);
                }
                if (!hasBit(set, to)) {
                    put(mostWords, to, Math.max(cell(mostWords, to), cell(words, been)));
                }
                enter(to, set | 1 << to, days);
            }
        }

        private void await(int state, int strong) {
            int first = cell(firstAwaited, strong);
            if (awaitedInAll >= MOST_AWAITED) {
                return;
            }
            put(awaited, awaitedInAll, state);
            put(nextAwaited, awaitedInAll, first);
            put(firstAwaited, strong, awaitedInAll);
            awaitedInAll++;
        }

        private void settle(Port port, int state, int strong) {
            int house = houseOf(state);
            int set = setOf(state);
            if (!markSeen(house, set)) {
                return;
            }
            if (cell(needed, house) == NONE) {
                put(needed, house, strong);
            }
            int weighs = cell(weights, Integer.bitCount(set));
            for (int to = 0; to < port.houses; to++) {
                if (hasBit(cell(doors, house), to)) {
                    int takes = Math.max(strong, weighs + port.climbTo(house, to));
                    await(to | (set | 1 << to) << SET_SHIFT, takes);
                }
            }
        }

        private static int houseOf(int state) {
            return state & HOUSES - 1;
        }

        private static int setOf(int state) {
            return state >> SET_SHIFT & SETS - 1;
        }
    }

    /** RAIN, as it may be and as it is drawn. */
    private static final class Weather {
        boolean fresh;
        long whole;
        private final long[] known = new long[SLATES * HOUSES];
        private final long[] words = new long[SLATES];

        void fill(Port port, Course course) {
            if (fresh) {
                return;
            }
            fresh = true;
            Arrays.fill(known, 0L);
            Arrays.fill(words, 0L);
            // RAIN on a DAY without CARRIES rubs nothing out, so it need not be told apart.
            int busy = port.busyDays();
            int days = Math.min(MOST_RAIN_DAYS, Integer.bitCount(busy));
            whole = power(MOST_ODDS, days);
            int rain = 0;
            for (int i = 0; i < 1 << days; i++) {
                int wet = Integer.bitCount(rain);
                long likely = power(port.odds, wet) * power(MOST_ODDS - port.odds, days - wet);
                if (likely > 0) {
                    course.setAsTold(port);
                    course.rain = rain;
                    course.runThrough(port);
                    addUp(port, course, likely);
                }
                // The next set of busy DAYS, as counting goes through their bits alone.
                rain = rain - busy & busy;
            }
        }

        long likelyKnown(int house, int slate) {
            int i = slate * HOUSES + house;
            return i >= 0 && i < known.length ? known[i] : 0;
        }

        long wordsLeft(int slate) {
            return slate >= 0 && slate < words.length ? words[slate] : 0;
        }

        int rainDrawn(Port port, long seed) {
            int rain = 0;
            long x = seed;
            for (int day = 0; day < port.days; day++) {
                x = (1103515245L * x + 12345L) % 2147483648L;
                if (x / 65536 % 10 < port.odds) {
                    rain |= 1 << day;
                }
            }
            return rain;
        }

        private void addUp(Port port, Course course, long likely) {
            for (int s = 0; s < port.slates && s < words.length; s++) {
                words[s] += likely * Integer.bitCount(cell(course.left, s));
                for (int h = 0; h < port.houses; h++) {
                    int i = s * HOUSES + h;
                    if (i < known.length && course.knownBy(h, s) != 0) {
                        known[i] += likely;
                    }
                }
            }
        }

        private static long power(int base, int times) {
            long product = 1;
            for (int i = 0; i < times; i++) {
                product *= base;
            }
            return product;
        }
    }

    /** Where a SLATE can have been at first, by what a SLOT's row tells of it. */
    private static final class Seen {
        private static final int PAGES = MOST_DAYS + 1;

        int firstHouses;
        private final int[] lay = new int[HOUSES * PAGES];

        int wrongRow(Port port, Slots slots, int slot, int slate) {
            if (!slots.isSlot(slot) || !port.isSlate(slate)) {
                return NO_SUCH;
            }
            if (!slots.hasRow(slot)) {
                return EMPTY;
            }
            int size = slots.sizeOf(slot);
            if (size % 2 != 0) {
                return NO_SUCH;
            }
            for (int i = 0; i < size; i += 2) {
                long day = slots.numberAt(slot, i);
                long house = slots.numberAt(slot, i + 1);
                if (day < 0 || day > port.days || house < 0 || house >= port.houses) {
                    return NO_SUCH;
                }
            }
            return 0;
        }

        void findFirsts(Port port, Slots slots, int slot, int slate, Diary diary) {
            firstHouses = 0;
            for (int h = 0; h < port.houses; h++) {
                diary.course.setAsTold(port);
                diary.course.movedSlate = slate;
                diary.course.movedHouse = h;
                diary.fill(port);
                for (int day = 0; day <= port.days; day++) {
                    put(lay, h * PAGES + day, diary.slateOn(slate, day));
                }
                if (isAsSeen(slots, slot, slate, diary)) {
                    firstHouses |= 1 << h;
                }
            }
        }

        boolean isAsSeen(Slots slots, int slot, int slate, Diary diary) {
            for (int i = 0; i < slots.sizeOf(slot); i += 2) {
                int day = (int) slots.numberAt(slot, i);
                if (diary.slateOn(slate, day) != slots.numberAt(slot, i + 1)) {
                    return false;
                }
            }
            return true;
        }

        int bestDay(Port port) {
            int best = NONE;
            int fewest = Integer.bitCount(firstHouses);
            for (int day = 0; day <= port.days; day++) {
                int left = leftAtWorst(day);
                if (left < fewest) {
                    fewest = left;
                    best = day;
                }
            }
            return best;
        }

        int leftAtWorst(int day) {
            int worst = 0;
            for (int h = 0; h < HOUSES; h++) {
                int there = 0;
                for (int first = 0; first < HOUSES; first++) {
                    if (hasBit(firstHouses, first) && cell(lay, first * PAGES + day) == h) {
                        there++;
                    }
                }
                worst = Math.max(worst, there);
            }
            return worst;
        }
    }

    /** Rows of numbers. */
    private static final class Slots {
        private static final int SLOTS = 4;
        private static final int WIDTHS = 4;
        private static final int NUMBERS = 60;

        // A width above the real one by 1, so that 0 is no row.
        private final int[] widths = new int[SLOTS];
        private final int[] sizes = new int[SLOTS];
        private final long[] numbers = new long[SLOTS * NUMBERS];

        boolean isSlot(int slot) {
            return slot >= 0 && slot < SLOTS;
        }

        boolean hasRow(int slot) {
            return cell(widths, slot) != 0;
        }

        int sizeOf(int slot) {
            return cell(sizes, slot);
        }

        long numberAt(int slot, int i) {
            int place = slot * NUMBERS + i;
            return place >= 0 && place < numbers.length ? numbers[place] : 0;
        }

        int howMany() {
            int rows = 0;
            for (int slot = 0; slot < SLOTS; slot++) {
                if (hasRow(slot)) {
                    rows++;
                }
            }
            return rows;
        }

        int make(int slot, int width, int n) {
            if (!isSlot(slot) || width < 0 || width >= WIDTHS || n > NUMBERS) {
                return NO_SUCH;
            }
            if (n < 0) {
                return BEYOND;
            }
            put(widths, slot, width + 1);
            put(sizes, slot, n);
            for (int i = 0; i < n; i++) {
                set(slot, i, 0L);
            }
            return 0;
        }

        int set(int slot, int i, long value) {
            if (!isSlot(slot)) {
                return NO_SUCH;
            }
            if (!hasRow(slot)) {
                return EMPTY;
            }
            int place = slot * NUMBERS + i;
            if (i < 0 || i >= sizeOf(slot) || place < 0 || place >= numbers.length) {
                return NO_PLACE;
            }
            numbers[place] = cut(value, cell(widths, slot) - 1);
            return 0;
        }

        int move(int slot, int i, int to, int k, int n) {
            if (!isSlot(slot) || !isSlot(to)) {
                return NO_SUCH;
            }
            if (!hasRow(slot) || !hasRow(to)) {
                return EMPTY;
            }
            if (cell(widths, slot) != cell(widths, to)) {
                return UNLIKE;
            }
            if (!isWithin(slot, i, n) || !isWithin(to, k, n)) {
                return NO_PLACE;
            }
            System.arraycopy(numbers, slot * NUMBERS + i, numbers, to * NUMBERS + k, n);
            return 0;
        }

        private boolean isWithin(int slot, int i, int n) {
            return i >= 0 && n >= 0 && (long) i + n <= sizeOf(slot);
        }

        private static long cut(long value, int width) {
            switch (width) {
                case 0: return (byte) value;
                case 1: return (short) value;
                case 2: return (int) value;
                default: return value;
            }
        }
    }
}
