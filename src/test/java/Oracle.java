import java.math.BigInteger;
import java.util.ArrayList;
import java.util.HashMap;
import java.util.List;
import java.util.Map;
import java.util.Random;
import java.util.TreeMap;

/**
 * A second, slow reading of the document: a LAND drawn at random and every answer by its plain
 * definition (all ways tried one by one), to hold the program against.
 */
final class Oracle {
    static final long ALL = 1_000_000_000_000L;

    int days;
    int first;
    int snow;
    int clear;
    final List<int[]> things = new ArrayList<>();
    final List<int[]> valleys = new ArrayList<>();
    final Map<Integer, Integer> paths = new HashMap<>();
    int many = 1;
    int carry = 10;
    int cost = 0;
    int planeCarry;
    int planeCost;
    int mule;
    String text;
    int lines;
    /** Then every number is one of its bounds. */
    private boolean atBounds;

    private final Map<String, Map<List<Integer>, Long>> kept = new HashMap<>();

    static Oracle drawn(Random random) {
        Oracle land = new Oracle();
        StringBuilder text = new StringBuilder();
        land.atBounds = random.nextInt(5) == 0;
        land.days = land.drawn(random, 1, 60, random.nextInt(4) == 0 ? 60 : 9);
        land.first = land.percent(random);
        land.snow = land.percent(random);
        land.clear = land.percent(random);
        text.append("winter days ").append(land.days).append(" first ").append(land.first)
            .append("\nsnow ").append(land.snow).append(" clear ").append(land.clear).append(" ;");
        land.lines = 1;
        List<String> kinds = new ArrayList<>();
        int thingsMany = random.nextInt(5) == 0 ? random.nextInt(4) : 1 + random.nextInt(3);
        int valleysMany = random.nextInt(7);
        for (int i = 0; i < thingsMany; i++) {
            kinds.add("thing");
        }
        for (int i = 0; i < valleysMany; i++) {
            kinds.add(random.nextInt(5) == 0 ? 0 : kinds.size(), "valley");
        }
        for (String kind : new String[] {"lorry", "plane", "mule"}) {
            if (random.nextInt(3) > 0) {
                kinds.add(random.nextInt(kinds.size() + 1), kind);
            }
        }
        for (String kind : kinds) {
            land.tellOne(kind, random, text);
        }
        land.tellPaths(random, text);
        land.text = text.toString();
        return land;
    }

    /** From least up to what is usual, or one of the bounds. */
    private int drawn(Random random, int least, int most, int usual) {
        if (atBounds) {
            return random.nextInt(3) == 0 ? least : most;
        }
        return least + random.nextInt(usual - least + 1);
    }

    private int percent(Random random) {
        int[] edges = {0, 100, 50, 1, 99};
        if (atBounds) {
            return edges[random.nextInt(5)];
        }
        return random.nextInt(3) == 0 ? edges[random.nextInt(edges.length)] : random.nextInt(101);
    }

    private void tellOne(String kind, Random random, StringBuilder text) {
        lines++;
        if (kind.equals("thing")) {
            boolean cheap = random.nextBoolean();
            int[] thing = {drawn(random, 0, 99, cheap ? 4 : 99), drawn(random, 0, 999, cheap ? 11 : 999),
                drawn(random, 0, 99, cheap ? 3 : 99)};
            things.add(thing);
            text.append("thing price ").append(thing[0]).append(" harm ").append(thing[1]).append(" back ").append(thing[2]);
        } else if (kind.equals("valley")) {
            int[] valley = new int[5];
            valley[0] = percent(random);
            valley[1] = drawn(random, 0, 999, random.nextInt(3) == 0 ? 999 : 39);
            text.append(" valley shut ").append(valley[0]).append(" room ").append(valley[1]).append(" wants");
            for (int i = 0; i < things.size(); i++) {
                valley[2 + i] = drawn(random, 0, 9, 9);
                text.append(' ').append(valley[2 + i]);
            }
            valleys.add(valley);
        } else if (kind.equals("lorry")) {
            many = drawn(random, 1, 9, 9);
            carry = drawn(random, 1, 50, random.nextBoolean() ? 5 : 50);
            cost = drawn(random, 0, 999, random.nextBoolean() ? 3 : 999);
            text.append("lorry many ").append(many).append(" carry ").append(carry).append(" cost ").append(cost);
        } else if (kind.equals("plane")) {
            planeCarry = drawn(random, 1, 50, 50);
            planeCost = drawn(random, 0, 9999, random.nextBoolean() ? 99 : 9999);
            text.append("plane carry ").append(planeCarry).append(" cost ").append(planeCost);
        } else {
            mule = drawn(random, 0, 99, random.nextBoolean() ? 3 : 99);
            text.append("mule ").append(mule);
        }
        text.append(";\n");
    }

    private void tellPaths(Random random, StringBuilder text) {
        for (int i = 0; i < 8 && valleys.size() > 1; i++) {
            int one = random.nextInt(valleys.size());
            int other = random.nextInt(valleys.size());
            if (one != other && path(one, other) == 0) {
                int fedFor = drawn(random, 1, 30, random.nextBoolean() ? 4 : 30);
                paths.put(Math.min(one, other) * 6 + Math.max(one, other), fedFor);
                text.append("path ").append(one).append(' ').append(other).append(" days ").append(fedFor).append(';');
                lines++;
            }
        }
    }

    int path(int one, int other) {
        return paths.getOrDefault(Math.min(one, other) * 6 + Math.max(one, other), 0);
    }

    int shutOf(int valley) {
        return valleys.get(valley)[0];
    }

    int eats(int valley, int thing) {
        return valleys.get(valley)[2 + thing];
    }

    int wants(int valley, int thing, int day) {
        return day == 0 ? 0 : eats(valley, thing) * (days - day);
    }

    int chance(int day, int sky) {
        return day == 1 ? first : sky == 1 ? snow : clear;
    }

    /** PARTS behind a DAY by the days on which these roads shut (0: open), told in that order. */
    Map<List<Integer>, Long> ways(List<Integer> roads, int until, boolean withDays) {
        String key = roads + " " + until + " " + withDays;
        return kept.computeIfAbsent(key, k -> freshWays(roads, until, withDays));
    }

    private Map<List<Integer>, Long> freshWays(List<Integer> roads, int until, boolean withDays) {
        Map<List<Integer>, long[]> skies = new HashMap<>();
        List<Integer> open = new ArrayList<>();
        for (int i = 0; i < roads.size(); i++) {
            open.add(0);
        }
        skies.put(open, new long[] {ALL, 0});
        for (int day = 1; day <= until; day++) {
            Map<List<Integer>, long[]> next = new HashMap<>();
            for (Map.Entry<List<Integer>, long[]> way : skies.entrySet()) {
                long behindSnow = way.getValue()[1];
                long behindClear = way.getValue()[0];
                long snowing = behindSnow * chance(day, 1) / 100;
                snowing += behindClear * chance(day, 0) / 100;
                long staysClear = behindSnow + behindClear - snowing;
                next.computeIfAbsent(way.getKey(), w -> new long[2])[0] += staysClear;
                Map<List<Integer>, Long> pieces = new HashMap<>();
                pieces.put(way.getKey(), snowing);
                for (int i = 0; i < roads.size(); i++) {
                    pieces = splitByRoad(pieces, i, shutOf(roads.get(i)), withDays ? day : 1);
                }
                for (Map.Entry<List<Integer>, Long> piece : pieces.entrySet()) {
                    next.computeIfAbsent(piece.getKey(), w -> new long[2])[1] += piece.getValue();
                }
            }
            skies = next;
        }
        Map<List<Integer>, Long> answer = new HashMap<>();
        for (Map.Entry<List<Integer>, long[]> way : skies.entrySet()) {
            answer.put(way.getKey(), way.getValue()[0] + way.getValue()[1]);
        }
        return answer;
    }

    private static Map<List<Integer>, Long> splitByRoad(Map<List<Integer>, Long> pieces, int i, int shut, int mark) {
        Map<List<Integer>, Long> split = new HashMap<>();
        for (Map.Entry<List<Integer>, Long> piece : pieces.entrySet()) {
            if (piece.getKey().get(i) != 0) {
                split.merge(piece.getKey(), piece.getValue(), Long::sum);
            } else {
                long closes = piece.getValue() * shut / 100;
                List<Integer> shutNow = new ArrayList<>(piece.getKey());
                shutNow.set(i, mark);
                split.merge(shutNow, closes, Long::sum);
                split.merge(piece.getKey(), piece.getValue() - closes, Long::sum);
            }
        }
        return split;
    }

    long shuts(int valley, int day) {
        return ways(List.of(valley), days, true).getOrDefault(List.of(day), 0L);
    }

    long by(int valley, int day) {
        long sum = 0;
        for (Map.Entry<List<Integer>, Long> way : ways(List.of(valley), day, true).entrySet()) {
            sum += way.getKey().get(0) == 0 ? 0 : way.getValue();
        }
        return sum;
    }

    long both(int one, int day, int other, int otherDay) {
        return ways(List.of(one, other), days, true).getOrDefault(List.of(day, otherDay), 0L);
    }

    List<Integer> everyRoad() {
        List<Integer> roads = new ArrayList<>();
        for (int i = 0; i < valleys.size(); i++) {
            roads.add(i);
        }
        return roads;
    }

    long set(int day, int bits) {
        List<Integer> way = new ArrayList<>();
        for (int i = 0; i < valleys.size(); i++) {
            way.add(bits >> i & 1);
        }
        return ways(everyRoad(), day, false).getOrDefault(way, 0L);
    }

    long together(int day, int many) {
        long sum = 0;
        for (int bits = 0; bits < 1 << valleys.size(); bits++) {
            sum += Integer.bitCount(bits) == many ? set(day, bits) : 0;
        }
        return sum;
    }

    int when(int valley, int thousandths) {
        for (int day = 1; day <= days; day++) {
            if (by(valley, day) * 1000 >= thousandths * ALL) {
                return day;
            }
        }
        return -1;
    }

    /** PARTS by WANTS. */
    Map<Integer, Long> wanting(int valley, int thing) {
        Map<Integer, Long> parts = new TreeMap<>();
        for (int day = 0; day <= days; day++) {
            parts.merge(wants(valley, thing, day), shuts(valley, day), Long::sum);
        }
        return parts;
    }

    Map<Integer, Long> wantingAtFork(int one, int other, int thing) {
        Map<Integer, Long> parts = new TreeMap<>();
        for (Map.Entry<List<Integer>, Long> way : ways(List.of(one, other), days, true).entrySet()) {
            int wanted = wants(one, thing, way.getKey().get(0)) + wants(other, thing, way.getKey().get(1));
            parts.merge(wanted, way.getValue(), Long::sum);
        }
        return parts;
    }

    int fedDays(int valley, int from, int day, int fromDay) {
        int fed = 0;
        if (day != 0) {
            for (int d = day + 1; d <= days && fed < path(valley, from); d++) {
                boolean openThen = fromDay == 0 || fromDay > day;
                boolean stillOpen = fromDay == 0 || d <= fromDay;
                fed += openThen && stillOpen ? 1 : 0;
            }
        }
        return fed;
    }

    Map<Integer, Long> wantingWithPath(int valley, int from, int thing) {
        if (path(valley, from) == 0) {
            return wanting(valley, thing);
        }
        Map<Integer, Long> parts = new TreeMap<>();
        for (Map.Entry<List<Integer>, Long> way : ways(List.of(valley, from), days, true).entrySet()) {
            int day = way.getKey().get(0);
            int eatenDays = day == 0 ? 0 : days - day - fedDays(valley, from, day, way.getKey().get(1));
            parts.merge(eats(valley, thing) * eatenDays, way.getValue(), Long::sum);
        }
        return parts;
    }

    BigInteger whole(Map<Integer, Long> parts, int thing, int sacks, int perEaten, boolean flying) {
        int[] t = things.get(thing);
        BigInteger sum = BigInteger.valueOf(ALL).multiply(BigInteger.valueOf((long) t[0] * sacks));
        for (Map.Entry<Integer, Long> part : parts.entrySet()) {
            int lacking = Math.max(0, part.getKey() - sacks);
            int left = Math.max(0, sacks - part.getKey());
            long eaten = Math.min(sacks, part.getKey());
            long each = (flying ? harmFlown(t[1], lacking) : (long) t[1] * lacking) + (long) t[2] * left + perEaten * eaten;
            sum = sum.add(BigInteger.valueOf(part.getValue()).multiply(BigInteger.valueOf(each)));
        }
        return sum;
    }

    private long harmFlown(int harm, int lacking) {
        if (planeCarry == 0) {
            return (long) harm * lacking;
        }
        long sum = 0;
        int rest = lacking;
        while (rest > 0) {
            int load = Math.min(rest, planeCarry);
            sum += (long) harm * load > planeCost ? planeCost : (long) harm * load;
            rest -= load;
        }
        return sum;
    }

    static long thousandths(BigInteger whole) {
        return whole.multiply(BigInteger.valueOf(1000)).divide(BigInteger.valueOf(ALL)).longValueExact();
    }

    BigInteger[] wholes(Map<Integer, Long> parts, int thing, int perEaten, boolean flying) {
        BigInteger[] all = new BigInteger[1000];
        for (int sacks = 0; sacks < 1000; sacks++) {
            all[sacks] = whole(parts, thing, sacks, perEaten, flying);
        }
        return all;
    }

    static int least(BigInteger[] wholes) {
        int least = 0;
        for (int sacks = 1; sacks < wholes.length; sacks++) {
            least = wholes[sacks].compareTo(wholes[least]) < 0 ? sacks : least;
        }
        return least;
    }

    long cost(int valley, int thing, int sacks) {
        return thousandths(whole(wanting(valley, thing), thing, sacks, 0, false));
    }

    long sure(int valley, int thing, int sacks) {
        long sum = 0;
        for (Map.Entry<Integer, Long> part : wanting(valley, thing).entrySet()) {
            sum += part.getKey() <= sacks ? part.getValue() : 0;
        }
        return sum;
    }

    int need(int valley, int thing, int n) {
        for (int sacks = 0; sacks <= 999; sacks++) {
            if ((ALL - sure(valley, thing, sacks)) * 1000 <= n * ALL) {
                return sacks;
            }
        }
        return -1;
    }

    /** Sacks of THINGS 0, 1, 2 at best in the room, by trying all. */
    int[] pack(int valley) {
        long[][] wholes = new long[3][1000];
        for (int thing = 0; thing < things.size(); thing++) {
            for (int sacks = 0; sacks < 1000; sacks++) {
                wholes[thing][sacks] = whole(wanting(valley, thing), thing, sacks, 0, false).longValueExact();
            }
        }
        int room = valleys.get(valley)[1];
        int[] thirdWithin = new int[room + 1];
        for (int bound = 1; bound <= room; bound++) {
            int before = thirdWithin[bound - 1];
            thirdWithin[bound] = things.size() > 2 && wholes[2][bound] < wholes[2][before] ? bound : before;
        }
        int[] best = null;
        long least = Long.MAX_VALUE;
        for (int a = 0; a <= (things.size() > 0 ? room : 0); a++) {
            for (int b = 0; b <= (things.size() > 1 ? room - a : 0); b++) {
                int c = thirdWithin[room - a - b];
                long sum = wholes[0][a] + wholes[1][b] + wholes[2][c];
                if (sum < least) {
                    least = sum;
                    best = new int[] {a, b, c};
                }
            }
        }
        return best;
    }

    BigInteger packedWhole(int valley) {
        int[] best = pack(valley);
        BigInteger sum = BigInteger.ZERO;
        for (int thing = 0; thing < things.size(); thing++) {
            sum = sum.add(whole(wanting(valley, thing), thing, best[thing], 0, false));
        }
        return sum;
    }

    long gap(int valley) {
        BigInteger free = BigInteger.ZERO;
        for (int thing = 0; thing < things.size(); thing++) {
            BigInteger[] wholes = wholes(wanting(valley, thing), thing, 0, false);
            free = free.add(wholes[least(wholes)]);
        }
        return thousandths(packedWhole(valley).subtract(free));
    }

    /** What is to come at least on the morning of a DAY, by sky of the one ahead, and the fewest lorries for it. */
    final class Mornings {
        final long[][][] least = new long[days + 2][2][601];
        final int[][][] sent = new int[days + 2][2][601];

        Mornings(int valley, int thing) {
            int[] t = things.get(thing);
            for (int s = 0; s <= 600; s++) {
                least[days + 1][0][s] = 1000L * t[2] * s;
                least[days + 1][1][s] = 1000L * t[2] * s;
            }
            for (int day = days; day >= 1; day--) {
                for (int sky = 0; sky <= 1; sky++) {
                    for (int s = 0; s <= 600; s++) {
                        choose(valley, thing, day, sky, s);
                    }
                }
            }
        }

        private void choose(int valley, int thing, int day, int sky, int lying) {
            int[] t = things.get(thing);
            least[day][sky][lying] = Long.MAX_VALUE;
            for (int k = 0; k <= many && lying + k * carry <= 600; k++) {
                int s = lying + k * carry;
                int wanted = wants(valley, thing, day);
                long ifShut = 1000L * (t[1] * Math.max(0, wanted - s) + t[2] * Math.max(0, s - wanted));
                long ofSnow = (shutOf(valley) * ifShut + (100 - shutOf(valley)) * least[day + 1][1][s]) / 100;
                int p = chance(day, sky);
                long all = (p * ofSnow + (100 - p) * least[day + 1][0][s]) / 100;
                long sum = 1000L * k * (cost + carry * t[0]) + all;
                if (sum < least[day][sky][lying]) {
                    least[day][sky][lying] = sum;
                    sent[day][sky][lying] = k;
                }
            }
        }

        int last() {
            int s = 0;
            int last = -1;
            for (int day = 1; day <= days; day++) {
                int k = sent[day][0][s];
                last = k > 0 ? day : last;
                s += k * carry;
            }
            return last;
        }
    }

    long signs(int valley, int thing, long late) {
        long least = Long.MAX_VALUE;
        for (int sacks = 0; sacks <= 999; sacks++) {
            int lorries = sacks / carry + (sacks % carry == 0 ? 0 : 1);
            least = Math.min(least, cost(valley, thing, sacks) + 1000L * cost * lorries);
        }
        return least - late;
    }

    long fed(int valley, int from) {
        BigInteger sum = BigInteger.ZERO;
        if (path(valley, from) != 0) {
            for (Map.Entry<List<Integer>, Long> way : ways(List.of(valley, from), days, true).entrySet()) {
                long fed = fedDays(valley, from, way.getKey().get(0), way.getKey().get(1));
                sum = sum.add(BigInteger.valueOf(way.getValue()).multiply(BigInteger.valueOf(fed)));
            }
        }
        return sum.multiply(BigInteger.valueOf(100)).divide(BigInteger.valueOf(ALL)).longValueExact();
    }

    static int given(int[] asked, int rule, int sacks, int valley) {
        if (rule == 0) {
            long all = 0;
            for (int a : asked) {
                all += a;
            }
            return all == 0 ? 0 : (int) ((long) sacks * asked[valley] / all);
        }
        for (int level = 999; level >= 0; level--) {
            long all = 0;
            for (int a : asked) {
                all += Math.min(a, level);
            }
            if (all <= sacks) {
                return Math.min(asked[valley], level);
            }
        }
        return 0;
    }

    BigInteger loss(int valley, int thing, int given) {
        BigInteger sum = BigInteger.ZERO;
        for (Map.Entry<Integer, Long> part : wanting(valley, thing).entrySet()) {
            long lacking = Math.max(0, part.getKey() - Math.min(999, given));
            sum = sum.add(BigInteger.valueOf(part.getValue()).multiply(BigInteger.valueOf(lacking * things.get(thing)[1])));
        }
        return sum;
    }

    /** The least number to ask, and what it pays. */
    long[] asks(int[] asked, int rule, int sacks, int valley, int thing) {
        BigInteger least = null;
        int number = -1;
        for (int a = 0; a <= 999; a++) {
            int[] otherwise = asked.clone();
            otherwise[valley] = a;
            BigInteger loss = loss(valley, thing, given(otherwise, rule, sacks, valley));
            if (least == null || loss.compareTo(least) < 0) {
                least = loss;
                number = a;
            }
        }
        BigInteger asRow = loss(valley, thing, given(asked, rule, sacks, valley));
        return new long[] {number, thousandths(asRow.subtract(least))};
    }

    long burnt(int valley, int thing, int sacks, int n) {
        long ifBurns = 1000L * things.get(thing)[0] * sacks + cost(valley, thing, 0);
        return ((100 - n) * cost(valley, thing, sacks) + n * ifBurns) / 100;
    }

    long spread(int valley, int thing, int sacks, int n) {
        long price = 1000L * things.get(thing)[0];
        int one = sacks / 2;
        int two = sacks - one;
        long p = 100 - n;
        return (p * p * cost(valley, thing, sacks) + p * n * (cost(valley, thing, one) + price * two)
            + p * n * (cost(valley, thing, two) + price * one) + (long) n * n * (cost(valley, thing, 0) + price * sacks)) / 10000;
    }

    int[] year(long seed) {
        int[] shut = new int[valleys.size()];
        long x = seed;
        int sky = 0;
        for (int day = 1; day <= days; day++) {
            x = (1103515245L * x + 12345) % (1L << 31);
            sky = x / 65536 % 100 < chance(day, sky) ? 1 : 0;
            for (int v = 0; sky == 1 && v < shut.length; v++) {
                if (shut[v] == 0) {
                    x = (1103515245L * x + 12345) % (1L << 31);
                    shut[v] = x / 65536 % 100 < shutOf(v) ? day : 0;
                }
            }
        }
        return shut;
    }

    /** lacking, left over, the first DAY on which some lack: by eating DAY by DAY. */
    int[] lacks(int valley, int thing, int sacks, int shutDay) {
        int store = sacks;
        int lacking = 0;
        int firstDay = 0;
        for (int day = shutDay + 1; shutDay != 0 && day <= days; day++) {
            for (int i = 0; i < eats(valley, thing); i++) {
                if (store > 0) {
                    store--;
                } else {
                    lacking++;
                    firstDay = firstDay == 0 ? day : firstDay;
                }
            }
        }
        return new int[] {lacking, store, firstDay};
    }
}
