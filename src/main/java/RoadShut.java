import java.util.Arrays;

/** Stores laid in valleys before their roads shut; ../shared/DOC.md says what each call answers. */
public final class RoadShut {
    public static final int NONE = -1;

    private static final int NO_SUCH = -2;
    private static final int BELOW = -3;
    private static final int FAULTY = -4;
    private static final int EMPTY = -6;
    private static final int BEYOND = -7;
    private static final int UNLIKE = -8;
    private static final long NOTHING = -1000000000000L;

    private static final long ALL_PARTS = 1000000000000L;
    /** Whole costs are counted in PARTS of one; a thousandth of one has so many. */
    private static final long THOUSANDTH = 1000000000L;

    private static final int TAPE_MOST = 1600;
    private static final int DAYS_MOST = 60;
    private static final int THINGS_MOST = 3;
    private static final int VALLEYS_MOST = 6;
    private static final int PATHS_MOST = 8;
    private static final int SACKS_MOST = 999;
    private static final int LYING_MOST = 600;
    private static final int SHARED_MOST = 99999;
    /** So many leave one of 0 .. SACKS_MOST. */
    private static final int HALVINGS = 10;
    private static final int SLOTS = 4;
    private static final int IMAGES = 3;
    private static final int ROW_MOST = 60;
    private static final int SEED_MOST = 2000000000;
    private static final int YEARS_MOST = 100;

    private final byte[] tape = new byte[TAPE_MOST];
    private final Reader reader = new Reader();
    private final Stores stores = new Stores();
    private final Planner planner = new Planner();
    private final Sharing sharing = new Sharing();
    private final Dice dice = new Dice();
    private final int[] drawn = new int[VALLEYS_MOST];
    private final Row[] slots = new Row[SLOTS];
    private final Image[] images = new Image[IMAGES];
    private int taped;
    /** Without LAND it is one of no LINES, which has no DAYS, THINGS or VALLEYS. */
    private Land land = new Land();
    /** By VALLEY the DAY on which its road shut, 0 if it did not; null without YEAR. Never changed once set. */
    private int[] year;
    private int faultKind;
    private int faultPlace = NONE;

    public RoadShut() {
    }

    public int feed(int a, int b, int c, int d, int e) {
        if (taped + 20 > TAPE_MOST) {
            return NONE;
        }
        tapeFour(a);
        tapeFour(b);
        tapeFour(c);
        tapeFour(d);
        tapeFour(e);
        return taped;
    }

    public int end(int n) {
        if (n < 0 || n > taped) {
            return NONE;
        }
        taped = n;
        return n;
    }

    public int land() {
        Land told = reader.readLand(tape, taped);
        faultKind = reader.fault;
        faultPlace = reader.faultPlace;
        if (told == null) {
            return FAULTY;
        }
        land = told;
        year = null;
        taped = 0;
        return land.lines;
    }

    public int fault(int what) {
        if (what == 0) {
            return faultKind;
        }
        return what == 1 ? faultPlace : NONE;
    }

    public long shuts(int valley, int day) {
        if (!land.hasValley(valley) || !land.hasDayOrNever(day)) {
            return NO_SUCH;
        }
        stores.roads.followOne(land, valley);
        return stores.roads.partsOn(day);
    }

    public long by(int valley, int day) {
        if (!land.hasValley(valley) || !land.hasDay(day)) {
            return NO_SUCH;
        }
        stores.roads.followOne(land, valley);
        long parts = 0;
        for (int d = 1; d <= day; d++) {
            parts += stores.roads.partsOn(d);
        }
        return parts;
    }

    public long both(int one, int day, int other, int otherDay) {
        if (!land.hasTwo(one, other) || !land.hasDayOrNever(day) || !land.hasDayOrNever(otherDay)) {
            return NO_SUCH;
        }
        stores.roads.followTwo(land, one, other);
        return stores.roads.partsOnTwo(day, otherDay);
    }

    public long together(int day, int many) {
        if (!land.hasDay(day) || many < 0 || many > land.valleys) {
            return NO_SUCH;
        }
        stores.roads.followAll(land, day);
        long parts = 0;
        for (int way = 0; way < 1 << land.valleys; way++) {
            if (Integer.bitCount(way) == many) {
                parts += stores.roads.partsOfWay(way);
            }
        }
        return parts;
    }

    public long set(int day, int valleys) {
        if (!land.hasDay(day) || !land.hasBits(valleys)) {
            return NO_SUCH;
        }
        stores.roads.followAll(land, day);
        return stores.roads.partsOfWay(valleys);
    }

    public int when(int valley, int thousandths) {
        if (!land.hasValley(valley) || thousandths < 1 || thousandths > 1000) {
            return NO_SUCH;
        }
        stores.roads.followOne(land, valley);
        long parts = 0;
        for (int d = 1; d <= land.days; d++) {
            parts += stores.roads.partsOn(d);
            if (parts >= thousandths * THOUSANDTH) {
                return d;
            }
        }
        return NONE;
    }

    public int wants(int valley, int thing, int day) {
        if (!land.hasStore(valley, thing) || !land.hasDayOrNever(day)) {
            return NO_SUCH;
        }
        return land.wanted(valley, thing, day);
    }

    public long cost(int valley, int thing, int sacks) {
        if (!land.hasStore(valley, thing) || !isSacks(sacks)) {
            return NO_SUCH;
        }
        stores.layAlone(land, valley, thing);
        return stores.thousandths(sacks);
    }

    public long worth(int valley, int thing, int sacks) {
        if (!land.hasStore(valley, thing) || sacks < 0 || sacks >= SACKS_MOST) {
            return NOTHING;
        }
        stores.layAlone(land, valley, thing);
        return (stores.whole(0, sacks) - stores.whole(0, sacks + 1)) / THOUSANDTH;
    }

    public int best(int valley, int thing) {
        if (!land.hasStore(valley, thing)) {
            return NO_SUCH;
        }
        stores.layAlone(land, valley, thing);
        return stores.leastSacks(0);
    }

    public long sure(int valley, int thing, int sacks) {
        if (!land.hasStore(valley, thing) || !isSacks(sacks)) {
            return NO_SUCH;
        }
        stores.gatherAlone(land, valley, thing);
        return stores.enough(sacks);
    }

    public int need(int valley, int thing, int n) {
        if (!land.hasStore(valley, thing) || n < 0 || n > 1000) {
            return NO_SUCH;
        }
        stores.gatherAlone(land, valley, thing);
        long lacking = ALL_PARTS;
        for (int sacks = 0; sacks <= SACKS_MOST; sacks++) {
            lacking -= stores.partsWanting(sacks);
            if (lacking <= n * THOUSANDTH) {
                return sacks;
            }
        }
        return NONE;
    }

    public long packed(int valley) {
        if (!land.hasValley(valley)) {
            return NO_SUCH;
        }
        return stores.packRoom(land, valley) / THOUSANDTH;
    }

    public int pack(int valley, int thing) {
        if (!land.hasStore(valley, thing)) {
            return NO_SUCH;
        }
        stores.packRoom(land, valley);
        return stores.packedSacks(thing);
    }

    public long gap(int valley) {
        if (!land.hasValley(valley)) {
            return NO_SUCH;
        }
        long bound = stores.packRoom(land, valley);
        long free = 0;
        for (int thing = 0; thing < land.things; thing++) {
            free += stores.leastWhole(thing);
        }
        return (bound - free) / THOUSANDTH;
    }

    public long late(int valley, int thing) {
        if (!land.hasStore(valley, thing)) {
            return NO_SUCH;
        }
        return planner.leastFromFirst(land, valley, thing);
    }

    public int today(int valley, int thing, int day, boolean snow, int sacks) {
        if (!land.hasStore(valley, thing) || !land.hasDay(day) || sacks < 0 || sacks > LYING_MOST) {
            return NO_SUCH;
        }
        planner.begin(land, valley, thing, sacks);
        return planner.sentOn(day, snow);
    }

    public int last(int valley, int thing) {
        if (!land.hasStore(valley, thing)) {
            return NO_SUCH;
        }
        return planner.lastSentInClear(land, valley, thing);
    }

    public long signs(int valley, int thing) {
        if (!land.hasStore(valley, thing)) {
            return NOTHING;
        }
        stores.layAlone(land, valley, thing);
        long least = Long.MAX_VALUE;
        for (int sacks = 0; sacks <= SACKS_MOST; sacks++) {
            long brought = 1000L * land.fare * land.loadsOf(sacks);
            least = Math.min(least, stores.thousandths(sacks) + brought);
        }
        return least - planner.leastFromFirst(land, valley, thing);
    }

    public long fork(int one, int other, int thing, int sacks) {
        if (!land.hasTwo(one, other) || !land.hasThing(thing) || !isSacks(sacks)) {
            return NO_SUCH;
        }
        stores.layFork(land, one, other, thing);
        return stores.thousandths(sacks);
    }

    public int middle(int one, int other, int thing) {
        if (!land.hasTwo(one, other) || !land.hasThing(thing)) {
            return NO_SUCH;
        }
        stores.layFork(land, one, other, thing);
        return stores.leastSacks(0);
    }

    public long shares(int one, int other, int thing) {
        if (!land.hasTwo(one, other) || !land.hasThing(thing)) {
            return NOTHING;
        }
        stores.layAlone(land, one, thing);
        long apart = stores.leastWhole(0);
        stores.layAlone(land, other, thing);
        apart += stores.leastWhole(0);
        stores.layFork(land, one, other, thing);
        return (apart - stores.leastWhole(0)) / THOUSANDTH;
    }

    public long flown(int valley, int thing, int sacks) {
        if (!land.hasStore(valley, thing) || !isSacks(sacks)) {
            return NO_SUCH;
        }
        stores.gatherAlone(land, valley, thing);
        return stores.flownWhole(land, thing, sacks) / THOUSANDTH;
    }

    public int plane(int valley, int thing) {
        if (!land.hasStore(valley, thing)) {
            return NO_SUCH;
        }
        stores.gatherAlone(land, valley, thing);
        int least = 0;
        long leastWhole = stores.flownWhole(land, thing, 0);
        for (int sacks = 1; sacks <= SACKS_MOST; sacks++) {
            long whole = stores.flownWhole(land, thing, sacks);
            if (whole < leastWhole) {
                leastWhole = whole;
                least = sacks;
            }
        }
        return least;
    }

    public int edge(int thing) {
        if (!land.hasThing(thing)) {
            return NO_SUCH;
        }
        int harm = land.harm[thing];
        if (land.planeLoad == 0 || harm == 0) {
            return NONE;
        }
        int fewest = land.planeFare / harm + 1;
        return fewest <= land.planeLoad ? fewest : NONE;
    }

    public long path(int valley, int from, int thing, int sacks) {
        if (!land.hasTwo(valley, from) || !land.hasThing(thing) || !isSacks(sacks)) {
            return NO_SUCH;
        }
        if (land.pathBetween(valley, from) == 0) {
            stores.layAlone(land, valley, thing);
        } else {
            stores.layPath(land, valley, from, thing);
        }
        return stores.thousandths(sacks);
    }

    public int fed(int valley, int from) {
        if (!land.hasTwo(valley, from)) {
            return NO_SUCH;
        }
        if (land.pathBetween(valley, from) == 0) {
            return 0;
        }
        stores.roads.followTwo(land, valley, from);
        long days = 0;
        for (int day = 1; day <= land.days; day++) {
            for (int fromDay = 0; fromDay <= land.days; fromDay++) {
                days += stores.roads.partsOnTwo(day, fromDay) * land.fedDays(valley, from, day, fromDay);
            }
        }
        return (int) (days / (ALL_PARTS / 100));
    }

    public int given(int slot, int rule, int sacks, int valley) {
        int state = shareState(slot, rule, sacks, valley);
        if (state != 0) {
            return state;
        }
        return sharing.part(rule, sacks, valley);
    }

    public int asks(int slot, int rule, int sacks, int valley, int thing) {
        if (!land.hasThing(thing)) {
            return NO_SUCH;
        }
        int state = shareState(slot, rule, sacks, valley);
        if (state != 0) {
            return state;
        }
        stores.gatherAlone(land, valley, thing);
        return bestAsked(rule, sacks, valley, thing);
    }

    public long pays(int slot, int rule, int sacks, int valley, int thing) {
        if (!land.hasThing(thing)) {
            return NO_SUCH;
        }
        int state = shareState(slot, rule, sacks, valley);
        if (state != 0) {
            return state;
        }
        stores.gatherAlone(land, valley, thing);
        long asRow = stores.lossWhole(land, thing, sharing.part(rule, sacks, valley));
        return (asRow - lossIfAsked(rule, sacks, valley, thing, SACKS_MOST)) / THOUSANDTH;
    }

    public long burnt(int valley, int thing, int sacks, int n) {
        if (!land.hasStore(valley, thing) || !isSacks(sacks) || !isHundredth(n)) {
            return NO_SUCH;
        }
        stores.layAlone(land, valley, thing);
        return ((100 - n) * stores.thousandths(sacks) + n * costOfHeld(thing, sacks, 0)) / 100;
    }

    public long spread(int valley, int thing, int sacks, int n) {
        if (!land.hasStore(valley, thing) || !isSacks(sacks) || !isHundredth(n)) {
            return NO_SUCH;
        }
        stores.layAlone(land, valley, thing);
        return costOfTwoStores(thing, sacks, n);
    }

    public int bear(int valley, int thing, int n) {
        if (!land.hasStore(valley, thing) || !isHundredth(n)) {
            return NO_SUCH;
        }
        stores.layAlone(land, valley, thing);
        int least = 0;
        long leastCost = costOfTwoStores(thing, 0, n);
        for (int sacks = 1; sacks <= SACKS_MOST; sacks++) {
            long cost = costOfTwoStores(thing, sacks, n);
            if (cost < leastCost) {
                leastCost = cost;
                least = sacks;
            }
        }
        return least;
    }

    public int run(int seed) {
        if (!isSeed(seed) || land.days == 0) {
            return NO_SUCH;
        }
        int[] shutOn = new int[VALLEYS_MOST];
        dice.drawYear(land, seed, shutOn);
        year = shutOn;
        return land.roadsShut(shutOn);
    }

    public int told(int slot) {
        if (!isSlot(slot) || land.days == 0) {
            return NO_SUCH;
        }
        Row row = slots[slot];
        if (row == null) {
            return EMPTY;
        }
        if (row.numbers.length > land.days || !row.within(0, (1 << land.valleys) - 1)) {
            return NO_SUCH;
        }
        year = land.yearOf(row.numbers);
        return land.roadsShut(year);
    }

    public int shut(int valley) {
        if (!land.hasValley(valley)) {
            return NO_SUCH;
        }
        return year == null ? NONE : year[valley];
    }

    public int lacks(int valley, int thing, int sacks, int what) {
        if (!land.hasStore(valley, thing) || !isSacks(sacks) || what < 0 || what > 2) {
            return NO_SUCH;
        }
        if (year == null) {
            return NONE;
        }
        int shutOn = year[valley];
        int wanted = land.wanted(valley, thing, shutOn);
        if (what == 0) {
            return Math.max(0, wanted - sacks);
        }
        if (what == 1) {
            return Math.max(0, sacks - wanted);
        }
        return land.firstLacking(valley, thing, shutOn, sacks);
    }

    public int judge(int slot, int valley) {
        if (!isSlot(slot) || !land.hasValley(valley)) {
            return NO_SUCH;
        }
        if (year == null) {
            return NONE;
        }
        Row row = slots[slot];
        if (row == null) {
            return EMPTY;
        }
        if (row.numbers.length > land.days) {
            return NO_SUCH;
        }
        return land.firstWrong(row.numbers, year[valley]);
    }

    public long paid(int slot, int valley, int thing) {
        if (!isSlot(slot) || !land.hasStore(valley, thing) || year == null) {
            return NOTHING;
        }
        Row row = slots[slot];
        if (row == null || row.numbers.length > land.days) {
            return NOTHING;
        }
        if (land.firstWrong(row.numbers, year[valley]) != 0) {
            return NOTHING;
        }
        long lorries = row.total();
        long sacks = lorries * land.load;
        long wanted = land.wanted(valley, thing, year[valley]);
        long lacking = Math.max(0, wanted - sacks);
        long left = Math.max(0, sacks - wanted);
        return 1000 * (lorries * land.fare + sacks * land.price[thing]
            + lacking * land.harm[thing] + left * land.returning[thing]);
    }

    public int years(int seed, int n, int valley, int thing, int sacks, int what) {
        if (!isSeed(seed) || n < 1 || n > YEARS_MOST || what < 0 || what > 3) {
            return NO_SUCH;
        }
        if (!land.hasStore(valley, thing) || !isSacks(sacks)) {
            return NO_SUCH;
        }
        int answer = 0;
        for (int i = 0; i < n; i++) {
            dice.drawYear(land, seed + i, drawn);
            int wanted = land.wanted(valley, thing, drawn[valley]);
            int lacking = Math.max(0, wanted - sacks);
            if (what == 0) {
                answer += drawn[valley] == 0 ? 0 : 1;
            } else if (what == 1) {
                answer += lacking;
            } else if (what == 2) {
                answer = Math.max(answer, lacking);
            } else {
                answer += Math.max(0, sacks - wanted);
            }
        }
        return answer;
    }

    public int count(int what) {
        switch (what) {
            case 0:
                return land.valleys;
            case 1:
                return land.things;
            case 2:
                return land.days;
            case 3:
                return land.lines;
            case 4:
                return land.paths;
            case 5:
                return taped;
            case 6:
                return year == null ? 0 : 1;
            case 7:
                return slotsInUse();
            default:
                return NONE;
        }
    }

    public int keep(int k) {
        if (k < 0 || k >= IMAGES) {
            return NO_SUCH;
        }
        images[k] = new Image(land, year);
        return 0;
    }

    public int back(int k) {
        if (k < 0 || k >= IMAGES) {
            return NO_SUCH;
        }
        Image image = images[k];
        if (image == null) {
            return EMPTY;
        }
        land = image.land;
        year = image.year;
        return 0;
    }

    public int row(int slot, int width, int n) {
        if (!isSlot(slot) || width < 0 || width > 3 || n > ROW_MOST) {
            return NO_SUCH;
        }
        if (n < 0) {
            return BELOW;
        }
        slots[slot] = new Row(width, n);
        return 0;
    }

    public int write(int slot, int i, long v) {
        if (!isSlot(slot)) {
            return NO_SUCH;
        }
        Row row = slots[slot];
        if (row == null) {
            return EMPTY;
        }
        if (i < 0 || i >= row.numbers.length) {
            return BEYOND;
        }
        row.numbers[i] = row.narrowed(v);
        return 0;
    }

    public int paste(int slot, int i, int to, int k, int n) {
        if (!isSlot(slot) || !isSlot(to)) {
            return NO_SUCH;
        }
        Row source = slots[slot];
        Row target = slots[to];
        if (source == null || target == null) {
            return EMPTY;
        }
        if (source.width != target.width) {
            return UNLIKE;
        }
        if (!source.has(i, n) || !target.has(k, n)) {
            return BEYOND;
        }
        System.arraycopy(source.numbers, i, target.numbers, k, n);
        return 0;
    }

    private void tapeFour(int number) {
        for (int shift = 24; shift >= 0; shift -= 8) {
            if (taped < TAPE_MOST) {
                tape[taped] = (byte) (number >> shift);
                taped++;
            }
        }
    }

    private static boolean isSacks(int sacks) {
        return sacks >= 0 && sacks <= SACKS_MOST;
    }

    private static boolean isHundredth(int n) {
        return n >= 0 && n <= 100;
    }

    private static boolean isSeed(int seed) {
        return seed >= 0 && seed <= SEED_MOST;
    }

    private static boolean isSlot(int slot) {
        return slot >= 0 && slot < SLOTS;
    }

    private int slotsInUse() {
        int used = 0;
        for (int i = 0; i < SLOTS; i++) {
            used += slots[i] == null ? 0 : 1;
        }
        return used;
    }

    /** 0 when the SLOT's row can be shared by, which then is what `sharing` asks by. */
    private int shareState(int slot, int rule, int sacks, int valley) {
        if (!isSlot(slot) || rule < 0 || rule > 1 || sacks < 0 || sacks > SHARED_MOST || !land.hasValley(valley)) {
            return NO_SUCH;
        }
        Row row = slots[slot];
        if (row == null) {
            return EMPTY;
        }
        if (row.numbers.length != land.valleys || !row.within(0, SACKS_MOST)) {
            return NO_SUCH;
        }
        sharing.take(row.numbers);
        return 0;
    }

    private long lossIfAsked(int rule, int sacks, int valley, int thing, int asked) {
        return stores.lossWhole(land, thing, sharing.partIfAsked(rule, sacks, valley, asked));
    }

    /** Who asks for more is never given less, so LOSS never grows with what is asked: halving finds the least. */
    private int bestAsked(int rule, int sacks, int valley, int thing) {
        long least = lossIfAsked(rule, sacks, valley, thing, SACKS_MOST);
        int low = 0;
        int high = SACKS_MOST;
        for (int i = 0; i < HALVINGS && low < high; i++) {
            int asked = (low + high) / 2;
            if (lossIfAsked(rule, sacks, valley, thing, asked) == least) {
                high = asked;
            } else {
                low = asked + 1;
            }
        }
        return low;
    }

    /** Thousandths, all sacks bought and only some of them there to be eaten. */
    private long costOfHeld(int thing, int sacks, int held) {
        return stores.thousandths(held) + 1000L * land.price[thing] * (sacks - held);
    }

    private long costOfTwoStores(int thing, int sacks, int n) {
        int half = sacks / 2;
        long stand = 100 - n;
        return (stand * stand * stores.thousandths(sacks)
            + stand * n * costOfHeld(thing, sacks, half)
            + stand * n * costOfHeld(thing, sacks, sacks - half)
            + (long) n * n * costOfHeld(thing, sacks, 0)) / 10000;
    }

    /** A LAND as it was told; once read it is never changed, so that images can share it. */
    private static final class Land {
        int lines;
        int days;
        int first;
        int snow;
        int clear;
        int things;
        int valleys;
        int paths;
        int lorries = 1;
        int load = 10;
        int fare;
        /** 0 without a plane. */
        int planeLoad;
        int planeFare;
        int mule;
        final int[] price = new int[THINGS_MOST];
        final int[] harm = new int[THINGS_MOST];
        final int[] returning = new int[THINGS_MOST];
        final int[] closing = new int[VALLEYS_MOST];
        final int[] room = new int[VALLEYS_MOST];
        final int[] eats = new int[VALLEYS_MOST * THINGS_MOST];
        /** By two VALLEYS, either way round; 0 without PATH. */
        final int[] pathDays = new int[VALLEYS_MOST * VALLEYS_MOST];

        boolean hasValley(int valley) {
            return valley >= 0 && valley < valleys;
        }

        boolean hasTwo(int one, int other) {
            return hasValley(one) && hasValley(other) && one != other;
        }

        boolean hasThing(int thing) {
            return thing >= 0 && thing < things;
        }

        boolean hasStore(int valley, int thing) {
            return hasValley(valley) && hasThing(thing);
        }

        boolean hasDay(int day) {
            return day >= 1 && day <= days;
        }

        boolean hasDayOrNever(int day) {
            return day >= 0 && day <= days;
        }

        boolean hasBits(int bits) {
            return bits >= 0 && bits < 1 << valleys;
        }

        int chance(int day, boolean behindSnow) {
            if (day == 1) {
                return first;
            }
            return behindSnow ? snow : clear;
        }

        int eaten(int valley, int thing) {
            boolean inside = valley >= 0 && valley < valleys && thing >= 0 && thing < things;
            return inside ? eats[valley * THINGS_MOST + thing] : 0;
        }

        int wanted(int valley, int thing, int shutOn) {
            return shutOn == 0 ? 0 : eaten(valley, thing) * (days - shutOn);
        }

        int pathBetween(int one, int other) {
            return hasTwo(one, other) ? pathDays[one * VALLEYS_MOST + other] : 0;
        }

        int fedDays(int valley, int from, int shutOn, int fromShutOn) {
            if (shutOn == 0 || fromShutOn != 0 && fromShutOn <= shutOn) {
                return 0;
            }
            int till = fromShutOn == 0 ? days : fromShutOn;
            return Math.min(pathBetween(valley, from), till - shutOn);
        }

        int loadsOf(int sacks) {
            return load < 1 ? 0 : (sacks + load - 1) / load;
        }

        int roadsShut(int[] shutOn) {
            int many = 0;
            for (int v = 0; v < valleys && v < shutOn.length; v++) {
                many += shutOn[v] == 0 ? 0 : 1;
            }
            return many;
        }

        int[] yearOf(long[] bitsByDay) {
            int[] shutOn = new int[VALLEYS_MOST];
            for (int i = 0; i < bitsByDay.length; i++) {
                for (int v = 0; v < valleys && v < VALLEYS_MOST; v++) {
                    if (shutOn[v] == 0 && (bitsByDay[i] >> v & 1) == 1) {
                        shutOn[v] = i + 1;
                    }
                }
            }
            return shutOn;
        }

        int firstLacking(int valley, int thing, int shutOn, int sacks) {
            int eaten = eaten(valley, thing);
            if (eaten == 0 || wanted(valley, thing, shutOn) <= sacks) {
                return 0;
            }
            return shutOn + sacks / eaten + 1;
        }

        /** The first DAY on which these lorries could not have gone; 0 without. */
        int firstWrong(long[] sent, int shutOn) {
            for (int i = 0; i < sent.length; i++) {
                boolean shutThatMorning = shutOn != 0 && shutOn < i + 1;
                if (sent[i] != 0 && (shutThatMorning || sent[i] < 0 || sent[i] > lorries)) {
                    return i + 1;
                }
            }
            return 0;
        }
    }

    /** Reads a LAND from a TAPE; the first FAULT it meets is the first by place, as it never looks ahead. */
    private static final class Reader {
        private static final int AT_END = 0;
        private static final int WORD = 1;
        private static final int NUMBER = 2;
        private static final int STOP = 3;
        private static final int BLANK = 4;
        private static final int STRANGE = 5;

        private static final int CANNOT_STAND = 1;
        private static final int NOT_AS_SAID = 2;
        private static final int TOO_MANY = 3;

        /** Above all bounds: longer numbers stay there, lest they wrap around into them. */
        private static final int NUMBER_MOST = 99999;

        int fault;
        int faultPlace = NONE;
        private byte[] tape = new byte[0];
        private int length;
        private int kind;
        private int start;
        private int stop;
        private int number;
        private Land land = new Land();
        private boolean lorryTold;
        private boolean planeTold;
        private boolean muleTold;

        /** null with a FAULT. */
        Land readLand(byte[] bytes, int many) {
            Land read = new Land();
            begin(read, bytes, many);
            for (int i = 0; i <= length && kind != AT_END && fault == 0; i++) {
                if (land.lines == 0) {
                    readWinter();
                } else if (isWord("thing")) {
                    readThing();
                } else if (isWord("valley")) {
                    readValley();
                } else if (isWord("lorry")) {
                    readLorry();
                } else if (isWord("plane")) {
                    readPlane();
                } else if (isWord("mule")) {
                    readMule();
                } else if (isWord("path")) {
                    readPath();
                } else {
                    refuse(CANNOT_STAND);
                }
                takeStop();
            }
            return fault == 0 ? read : null;
        }

        private void begin(Land read, byte[] bytes, int many) {
            land = read;
            tape = bytes;
            length = Math.min(many, bytes.length);
            stop = 0;
            fault = 0;
            faultPlace = NONE;
            lorryTold = false;
            planeTold = false;
            muleTold = false;
            step();
        }

        private void readWinter() {
            takeWord("winter");
            land.days = takeNamed("days", 1, DAYS_MOST);
            land.first = takeNamed("first", 0, 100);
            land.snow = takeNamed("snow", 0, 100);
            land.clear = takeNamed("clear", 0, 100);
        }

        private void readThing() {
            int thing = land.things;
            if (thing >= THINGS_MOST) {
                refuse(TOO_MANY);
                return;
            }
            takeWord("thing");
            land.price[thing] = takeNamed("price", 0, 99);
            land.harm[thing] = takeNamed("harm", 0, 999);
            land.returning[thing] = takeNamed("back", 0, 99);
            land.things = thing + 1;
        }

        private void readValley() {
            int valley = land.valleys;
            if (valley >= VALLEYS_MOST) {
                refuse(TOO_MANY);
                return;
            }
            takeWord("valley");
            land.closing[valley] = takeNamed("shut", 0, 100);
            land.room[valley] = takeNamed("room", 0, SACKS_MOST);
            takeWord("wants");
            for (int thing = 0; thing < land.things; thing++) {
                land.eats[valley * THINGS_MOST + thing] = takeNumber(0, 9);
            }
            land.valleys = valley + 1;
        }

        private void readLorry() {
            if (lorryTold) {
                refuse(NOT_AS_SAID);
            }
            lorryTold = true;
            takeWord("lorry");
            land.lorries = takeNamed("many", 1, 9);
            land.load = takeNamed("carry", 1, 50);
            land.fare = takeNamed("cost", 0, 999);
        }

        private void readPlane() {
            if (planeTold) {
                refuse(NOT_AS_SAID);
            }
            planeTold = true;
            takeWord("plane");
            land.planeLoad = takeNamed("carry", 1, 50);
            land.planeFare = takeNamed("cost", 0, 9999);
        }

        private void readMule() {
            if (muleTold) {
                refuse(NOT_AS_SAID);
            }
            muleTold = true;
            land.mule = takeNamed("mule", 0, 99);
        }

        private void readPath() {
            if (land.paths >= PATHS_MOST) {
                refuse(TOO_MANY);
            }
            takeWord("path");
            int one = takeNumber(0, land.valleys - 1);
            if (kind == NUMBER && (number == one || land.pathBetween(one, number) != 0)) {
                refuse(NOT_AS_SAID);
            }
            int other = takeNumber(0, land.valleys - 1);
            int fedFor = takeNamed("days", 1, 30);
            if (fault == 0 && land.hasTwo(one, other)) {
                land.pathDays[one * VALLEYS_MOST + other] = fedFor;
                land.pathDays[other * VALLEYS_MOST + one] = fedFor;
                land.paths++;
            }
        }

        private int takeNamed(String word, int least, int most) {
            takeWord(word);
            return takeNumber(least, most);
        }

        private void takeWord(String word) {
            if (isWord(word)) {
                step();
            } else {
                refuse(CANNOT_STAND);
            }
        }

        private int takeNumber(int least, int most) {
            if (kind != NUMBER) {
                refuse(CANNOT_STAND);
            } else if (number < least || number > most) {
                refuse(NOT_AS_SAID);
            }
            int taken = number;
            step();
            return fault == 0 ? taken : least;
        }

        private void takeStop() {
            if (kind != STOP) {
                refuse(CANNOT_STAND);
                return;
            }
            land.lines++;
            step();
        }

        /** Only the first one stays. */
        private void refuse(int what) {
            if (fault == 0) {
                fault = what;
                faultPlace = start;
            }
        }

        private boolean isWord(String word) {
            if (kind != WORD || word.length() != stop - start) {
                return false;
            }
            for (int i = 0; i < word.length(); i++) {
                if (signAt(start + i) != word.charAt(i)) {
                    return false;
                }
            }
            return true;
        }

        /** To the next TOKEN; behind a FAULT nothing is read any more. */
        private void step() {
            if (fault != 0) {
                return;
            }
            start = stop;
            while (start < length && kindAt(start) == BLANK) {
                start++;
            }
            kind = kindAt(start);
            number = 0;
            stop = start;
            boolean more = kind != AT_END;
            while (more && stop < length) {
                if (kind == NUMBER) {
                    number = Math.min(NUMBER_MOST, number * 10 + signAt(stop) - '0');
                }
                stop++;
                more = (kind == WORD || kind == NUMBER) && kindAt(stop) == kind;
            }
        }

        private int signAt(int place) {
            return place >= 0 && place < length && place < tape.length ? tape[place] : NONE;
        }

        private int kindAt(int place) {
            if (place < 0 || place >= length || place >= tape.length) {
                return AT_END;
            }
            int sign = tape[place];
            if (sign >= 'a' && sign <= 'z') {
                return WORD;
            }
            if (sign >= '0' && sign <= '9') {
                return NUMBER;
            }
            if (sign == ' ' || sign == '\n') {
                return BLANK;
            }
            return sign == ';' ? STOP : STRANGE;
        }
    }

    /** How likely roads shut when, in PARTS (II). */
    private static final class Roads {
        private static final int SPAN = DAYS_MOST + 1;
        private static final int WAYS = 1 << VALLEYS_MOST;

        private final long[] one = new long[SPAN];
        private final long[] two = new long[SPAN * SPAN];
        /** Ways of two of which one is open yet: 0 both, d the former shut on d, SPAN + d the other shut on d. */
        private final long[] snowyTwo = new long[2 * SPAN];
        private final long[] clearTwo = new long[2 * SPAN];
        private final long[] snowyAll = new long[WAYS];
        private final long[] clearAll = new long[WAYS];
        private final long[] splitAll = new long[WAYS];

        long partsOn(int day) {
            return day >= 0 && day < SPAN ? one[day] : 0;
        }

        long partsOnTwo(int day, int otherDay) {
            boolean inside = day >= 0 && day < SPAN && otherDay >= 0 && otherDay < SPAN;
            return inside ? two[day * SPAN + otherDay] : 0;
        }

        long partsOfWay(int way) {
            return way >= 0 && way < WAYS ? snowyAll[way] + clearAll[way] : 0;
        }

        void followOne(Land land, int valley) {
            Arrays.fill(one, 0);
            if (!land.hasValley(valley)) {
                return;
            }
            long snowy = 0;
            long clear = ALL_PARTS;
            for (int day = 1; day <= land.days && day < SPAN; day++) {
                long falling = snowing(land, day, snowy, clear);
                clear = snowy + clear - falling;
                one[day] = hundredths(falling, land.closing[valley]);
                snowy = falling - one[day];
            }
            one[0] = snowy + clear;
        }

        void followTwo(Land land, int former, int other) {
            Arrays.fill(two, 0);
            Arrays.fill(snowyTwo, 0);
            Arrays.fill(clearTwo, 0);
            if (!land.hasTwo(former, other)) {
                return;
            }
            clearTwo[0] = ALL_PARTS;
            int formerCloses = land.closing[former];
            int otherCloses = land.closing[other];
            for (int day = 1; day <= land.days && day < SPAN; day++) {
                for (int past = 1; past < day; past++) {
                    two[past * SPAN + day] = shutSecond(land, day, past, otherCloses);
                    two[day * SPAN + past] = shutSecond(land, day, SPAN + past, formerCloses);
                }
                splitBothOpen(land, day, formerCloses, otherCloses);
            }
            two[0] = snowyTwo[0] + clearTwo[0];
            for (int day = 1; day < SPAN; day++) {
                two[day * SPAN] = snowyTwo[day] + clearTwo[day];
                two[day] = snowyTwo[SPAN + day] + clearTwo[SPAN + day];
            }
        }

        /** PARTS of a way with one road open yet by which that one shuts on this DAY. */
        private long shutSecond(Land land, int day, int way, int closing) {
            long falling = skyOfTwo(land, day, way);
            long shutting = hundredths(falling, closing);
            snowyTwo[way] = falling - shutting;
            return shutting;
        }

        private void splitBothOpen(Land land, int day, int formerCloses, int otherCloses) {
            long falling = skyOfTwo(land, day, 0);
            long formerShut = hundredths(falling, formerCloses);
            long formerOpen = falling - formerShut;
            long bothShut = hundredths(formerShut, otherCloses);
            long otherShut = hundredths(formerOpen, otherCloses);
            two[day * SPAN + day] = bothShut;
            snowyTwo[day] = formerShut - bothShut;
            snowyTwo[SPAN + day] = otherShut;
            snowyTwo[0] = formerOpen - otherShut;
        }

        /** What of a way has snow on this DAY; the others of it are its clear ones then. */
        private long skyOfTwo(Land land, int day, int way) {
            long falling = snowing(land, day, snowyTwo[way], clearTwo[way]);
            clearTwo[way] = snowyTwo[way] + clearTwo[way] - falling;
            return falling;
        }

        void followAll(Land land, int untilDay) {
            Arrays.fill(snowyAll, 0);
            Arrays.fill(clearAll, 0);
            clearAll[0] = ALL_PARTS;
            for (int day = 1; day <= untilDay && day <= land.days; day++) {
                Arrays.fill(splitAll, 0);
                for (int way = 0; way < WAYS && way < 1 << land.valleys; way++) {
                    long falling = snowing(land, day, snowyAll[way], clearAll[way]);
                    clearAll[way] = snowyAll[way] + clearAll[way] - falling;
                    splitFrom(land, way, 0, falling);
                }
                System.arraycopy(splitAll, 0, snowyAll, 0, WAYS);
            }
        }

        /** Goes no deeper than there are VALLEYS. */
        private void splitFrom(Land land, int way, int valley, long part) {
            if (part == 0) {
                return;
            }
            if (valley >= land.valleys || valley >= VALLEYS_MOST) {
                splitAll[way & WAYS - 1] += part;
                return;
            }
            int bit = 1 << valley;
            long shutting = (way & bit) == 0 ? hundredths(part, land.closing[valley]) : 0;
            splitFrom(land, way | bit, valley + 1, shutting);
            splitFrom(land, way, valley + 1, part - shutting);
        }

        private static long snowing(Land land, int day, long snowy, long clear) {
            return hundredths(snowy, land.chance(day, true)) + hundredths(clear, land.chance(day, false));
        }

        private static long hundredths(long parts, int many) {
            return parts * many / 100;
        }
    }

    /** What sacks cost (III, IV, VI to VIII), from PARTS by how many are wanted. */
    private static final class Stores {
        private static final int COLUMN = SACKS_MOST + 1;
        private static final int WANTED_MOST = 2 * 9 * DAYS_MOST;

        final Roads roads = new Roads();
        private final long[] parts = new long[WANTED_MOST + 1];
        private int wantedMost;
        /** Whole costs, for each THING a column by sacks; with but one THING in hand it is the first column. */
        private final long[] wholes = new long[THINGS_MOST * COLUMN];
        private final int[] packing = new int[THINGS_MOST];

        long whole(int column, int sacks) {
            boolean inside = column >= 0 && column < THINGS_MOST && sacks >= 0 && sacks < COLUMN;
            return inside ? wholes[column * COLUMN + sacks] : 0;
        }

        long thousandths(int sacks) {
            return whole(0, sacks) / THOUSANDTH;
        }

        int leastSacks(int column) {
            int least = 0;
            for (int sacks = 1; sacks < COLUMN; sacks++) {
                if (whole(column, sacks) < whole(column, least)) {
                    least = sacks;
                }
            }
            return least;
        }

        long leastWhole(int column) {
            return whole(column, leastSacks(column));
        }

        long partsWanting(int sacks) {
            return sacks >= 0 && sacks <= WANTED_MOST ? parts[sacks] : 0;
        }

        long enough(int sacks) {
            long sum = 0;
            for (int wanted = 0; wanted <= sacks; wanted++) {
                sum += partsWanting(wanted);
            }
            return sum;
        }

        int packedSacks(int thing) {
            return thing >= 0 && thing < THINGS_MOST ? packing[thing] : 0;
        }

        void layAlone(Land land, int valley, int thing) {
            gatherAlone(land, valley, thing);
            sumUp(land, thing, 0, 0);
        }

        void layFork(Land land, int one, int other, int thing) {
            roads.followTwo(land, one, other);
            forget();
            for (int day = 0; day <= land.days; day++) {
                for (int otherDay = 0; otherDay <= land.days; otherDay++) {
                    int wanted = land.wanted(one, thing, day) + land.wanted(other, thing, otherDay);
                    gather(wanted, roads.partsOnTwo(day, otherDay));
                }
            }
            sumUp(land, thing, 0, land.mule);
        }

        void layPath(Land land, int valley, int from, int thing) {
            roads.followTwo(land, valley, from);
            forget();
            int eaten = land.eaten(valley, thing);
            for (int day = 0; day <= land.days; day++) {
                for (int fromDay = 0; fromDay <= land.days; fromDay++) {
                    int saved = eaten * land.fedDays(valley, from, day, fromDay);
                    gather(land.wanted(valley, thing, day) - saved, roads.partsOnTwo(day, fromDay));
                }
            }
            sumUp(land, thing, 0, 0);
        }

        void gatherAlone(Land land, int valley, int thing) {
            roads.followOne(land, valley);
            forget();
            for (int day = 0; day <= land.days; day++) {
                gather(land.wanted(valley, thing, day), roads.partsOn(day));
            }
        }

        private void forget() {
            Arrays.fill(parts, 0);
            wantedMost = 0;
        }

        private void gather(int wanted, long part) {
            if (wanted >= 0 && wanted <= WANTED_MOST) {
                parts[wanted] += part;
                wantedMost = Math.max(wantedMost, wanted);
            }
        }

        /** From one sack to the next: who wants it lacks one less, all others have one more left over. */
        private void sumUp(Land land, int thing, int column, int perEaten) {
            if (!land.hasThing(thing) || column < 0 || column >= THINGS_MOST) {
                return;
            }
            long sum = lossWhole(land, thing, 0);
            long having = 0;
            for (int sacks = 0; sacks < COLUMN; sacks++) {
                wholes[column * COLUMN + sacks] = sum;
                having += partsWanting(sacks);
                sum += land.price[thing] * ALL_PARTS + land.returning[thing] * having
                    + (perEaten - land.harm[thing]) * (ALL_PARTS - having);
            }
        }

        /** LOSS in PARTS; of more sacks than a store is asked about no more are there. */
        long lossWhole(Land land, int thing, int sacks) {
            int held = Math.min(sacks, SACKS_MOST);
            long lacking = 0;
            for (int wanted = held + 1; wanted <= wantedMost; wanted++) {
                lacking += parts[wanted] * (wanted - held);
            }
            return land.hasThing(thing) ? lacking * land.harm[thing] : 0;
        }

        long flownWhole(Land land, int thing, int sacks) {
            if (!land.hasThing(thing)) {
                return 0;
            }
            long sum = ALL_PARTS * land.price[thing] * sacks;
            for (int wanted = 0; wanted <= wantedMost; wanted++) {
                if (parts[wanted] != 0) {
                    long left = Math.max(0, sacks - wanted);
                    long harm = harmWithPlanes(land, land.harm[thing], Math.max(0, wanted - sacks));
                    sum += parts[wanted] * (harm + land.returning[thing] * left);
                }
            }
            return sum;
        }

        private static long harmWithPlanes(Land land, long harm, int lacking) {
            int load = land.planeLoad;
            if (load < 1) {
                return harm * lacking;
            }
            long ofLoad = Math.min(land.planeFare, harm * load);
            long ofRest = Math.min(land.planeFare, harm * (lacking % load));
            return lacking / load * ofLoad + ofRest;
        }

        /**
         * Whole COST of all THINGS at best. What the next sack of a THING saves never grows, so the
         * one that saves most goes in next; of several the later THING, which leaves the former ones least.
         */
        long packRoom(Land land, int valley) {
            if (!land.hasValley(valley)) {
                return 0;
            }
            Arrays.fill(packing, 0);
            for (int thing = 0; thing < land.things; thing++) {
                gatherAlone(land, valley, thing);
                sumUp(land, thing, thing, 0);
            }
            for (int laid = 0; laid < land.room[valley]; laid++) {
                int thing = savingMost(land);
                if (thing == NONE) {
                    break;
                }
                packing[thing]++;
            }
            long sum = 0;
            for (int thing = 0; thing < land.things; thing++) {
                sum += whole(thing, packing[thing]);
            }
            return sum;
        }

        private int savingMost(Land land) {
            int chosen = NONE;
            long most = 0;
            for (int thing = land.things - 1; thing >= 0; thing--) {
                int laid = packing[thing];
                long saved = laid < SACKS_MOST ? whole(thing, laid) - whole(thing, laid + 1) : 0;
                if (saved > most) {
                    most = saved;
                    chosen = thing;
                }
            }
            return chosen;
        }
    }

    /** Lorries sent day by day (V), from behind the last DAY to the first. */
    private static final class Planner {
        /** What is to come at least, by the sacks there, behind a DAY with snow and behind a clear one. */
        private final long[] snowy = new long[LYING_MOST + 1];
        private final long[] clear = new long[LYING_MOST + 1];
        /** By the sacks there the last DAY on which a lorry goes, if it stays clear. */
        private final int[] lastSent = new int[LYING_MOST + 1];
        private Land land = new Land();
        private int valley;
        private int thing;
        private int lying;
        private int fullest;
        /** Never below 1: all loops go by loads. */
        private int load = 1;
        private long fare;

        /**
         * Only sacks that can come to lie there are looked at: those that lie there and loads on top,
         * till no DAY wants more: one load beyond that never costs less.
         */
        void begin(Land told, int ofValley, int ofThing, int sacks) {
            land = told;
            valley = ofValley;
            thing = ofThing;
            lying = Math.max(0, sacks);
            load = Math.max(1, told.load);
            fullest = lying - 1;
            if (!land.hasStore(valley, thing) || lying > LYING_MOST) {
                return;
            }
            int wanted = land.wanted(valley, thing, 1);
            fullest = lying;
            while (fullest < wanted && fullest + load <= LYING_MOST) {
                fullest += load;
            }
            fare = 1000L * (land.fare + load * land.price[thing]);
            for (int s = lying; s <= fullest; s += load) {
                snowy[s] = 1000L * land.returning[thing] * s;
                clear[s] = snowy[s];
                lastSent[s] = NONE;
            }
        }

        long leastFromFirst(Land told, int ofValley, int ofThing) {
            begin(told, ofValley, ofThing, 0);
            for (int day = land.days; day >= 1; day--) {
                settle(day);
            }
            return clear[0];
        }

        int lastSentInClear(Land told, int ofValley, int ofThing) {
            leastFromFirst(told, ofValley, ofThing);
            return lastSent[0];
        }

        int sentOn(int day, boolean snow) {
            for (int later = land.days; later > day; later--) {
                settle(later);
            }
            weigh(day);
            return fewestOf(snow ? snowy : clear, lying);
        }

        /** From what is to come on the next morning to what is on this one. */
        private void settle(int day) {
            weigh(day);
            for (int s = lying; s <= fullest; s += load) {
                int sent = fewestOf(clear, s);
                int later = lastSent[s + sent * load];
                lastSent[s] = later == NONE && sent > 0 ? day : later;
                clear[s] = sent * fare + clear[s + sent * load];
                sent = fewestOf(snowy, s);
                snowy[s] = sent * fare + snowy[s + sent * load];
            }
        }

        /** What is to come once the lorries of this morning are there. */
        private void weigh(int day) {
            if (!land.hasStore(valley, thing)) {
                return;
            }
            int closing = land.closing[valley];
            int wanted = land.wanted(valley, thing, day);
            int behindSnow = land.chance(day, true);
            int behindClear = land.chance(day, false);
            for (int s = lying; s <= fullest; s += load) {
                long lacking = Math.max(0, wanted - s);
                long left = Math.max(0, s - wanted);
                long ifShut = 1000 * (land.harm[thing] * lacking + land.returning[thing] * left);
                long ifSnow = (closing * ifShut + (100 - closing) * snowy[s]) / 100;
                long ifClear = clear[s];
                snowy[s] = (behindSnow * ifSnow + (100 - behindSnow) * ifClear) / 100;
                clear[s] = (behindClear * ifSnow + (100 - behindClear) * ifClear) / 100;
            }
        }

        /** The fewest lorries of those by which fares and what is to come are least. */
        private int fewestOf(long[] toCome, int sacks) {
            int fewest = 0;
            if (sacks < 0 || sacks > fullest || sacks >= toCome.length) {
                return fewest;
            }
            long least = toCome[sacks];
            for (int sent = 1; sent <= land.lorries; sent++) {
                int there = sacks + sent * load;
                if (there <= fullest && there < toCome.length && sent * fare + toCome[there] < least) {
                    least = sent * fare + toCome[there];
                    fewest = sent;
                }
            }
            return fewest;
        }
    }

    /** Sacks shared by what is asked (IX). */
    private static final class Sharing {
        private final int[] asked = new int[VALLEYS_MOST];

        void take(long[] numbers) {
            Arrays.fill(asked, 0);
            for (int v = 0; v < numbers.length && v < VALLEYS_MOST; v++) {
                asked[v] = (int) numbers[v];
            }
        }

        int part(int rule, int sacks, int valley) {
            if (valley < 0 || valley >= VALLEYS_MOST) {
                return 0;
            }
            return rule == 0 ? byParts(sacks, valley) : Math.min(asked[valley], level(sacks));
        }

        int partIfAsked(int rule, int sacks, int valley, int number) {
            if (valley < 0 || valley >= VALLEYS_MOST) {
                return 0;
            }
            int told = asked[valley];
            asked[valley] = number;
            int answer = part(rule, sacks, valley);
            asked[valley] = told;
            return answer;
        }

        private int byParts(int sacks, int valley) {
            int all = sumUpTo(SACKS_MOST);
            return all < 1 ? 0 : (int) ((long) sacks * asked[valley] / all);
        }

        private int level(int sacks) {
            int low = 0;
            int high = SACKS_MOST;
            for (int i = 0; i < HALVINGS && low < high; i++) {
                int middle = (low + high + 1) / 2;
                if (sumUpTo(middle) <= sacks) {
                    low = middle;
                } else {
                    high = middle - 1;
                }
            }
            return low;
        }

        private int sumUpTo(int level) {
            int sum = 0;
            for (int v = 0; v < VALLEYS_MOST; v++) {
                sum += asked[v] < level ? asked[v] : level;
            }
            return sum;
        }
    }

    /** YEARS drawn from seeds (XI). */
    private static final class Dice {
        private long x;

        void drawYear(Land land, int seed, int[] shutOn) {
            Arrays.fill(shutOn, 0);
            x = seed;
            boolean snowed = false;
            for (int day = 1; day <= land.days; day++) {
                snowed = draw() < land.chance(day, snowed);
                for (int v = 0; snowed && v < land.valleys && v < shutOn.length; v++) {
                    if (shutOn[v] == 0 && draw() < land.closing[v]) {
                        shutOn[v] = day;
                    }
                }
            }
        }

        private int draw() {
            x = (1103515245L * x + 12345L) % 2147483648L;
            return (int) (x / 65536L % 100L);
        }
    }

    /** A SLOT's row. */
    private static final class Row {
        final int width;
        final long[] numbers;

        Row(int width, int many) {
            this.width = width;
            this.numbers = new long[Math.max(0, many)];
        }

        long narrowed(long v) {
            switch (width) {
                case 0:
                    return (byte) v;
                case 1:
                    return (short) v;
                case 2:
                    return (int) v;
                default:
                    return v;
            }
        }

        boolean has(int from, int many) {
            return from >= 0 && many >= 0 && from <= numbers.length && many <= numbers.length - from;
        }

        boolean within(long least, long most) {
            for (int i = 0; i < numbers.length; i++) {
                if (numbers[i] < least || numbers[i] > most) {
                    return false;
                }
            }
            return true;
        }

        long total() {
            long sum = 0;
            for (int i = 0; i < numbers.length; i++) {
                sum += numbers[i];
            }
            return sum;
        }
    }

    /** LAND and YEAR as they were kept; neither is ever changed. */
    private static final class Image {
        final Land land;
        final int[] year;

        Image(Land land, int[] year) {
            this.land = land;
            this.year = year;
        }
    }
}
