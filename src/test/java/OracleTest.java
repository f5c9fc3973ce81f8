import java.math.BigInteger;
import java.util.Map;
import java.util.Random;

/** Promises 6 to 45 on many LANDS drawn at random, held against the slow second reading. */
public final class OracleTest {
    private static final Check CHECK = new Check();
    private static Random random;
    private static Oracle land;
    private static RoadShut x;

    public static void main(String[] args) {
        int lands = args.length > 0 ? Integer.parseInt(args[0]) : 150;
        int from = args.length > 1 ? Integer.parseInt(args[1]) : 1;
        for (int seed = from; seed < from + lands; seed++) {
            random = new Random(seed);
            land = Oracle.drawn(random);
            x = new RoadShut();
            Check.tape(x, land.text);
            CHECK.due("land " + seed + " " + land.text, x.land(), land.lines);
            roadsTogether();
            for (int i = 0; i < 3 && land.valleys.size() > 0; i++) {
                roads();
                if (land.things.size() > 0) {
                    sacks();
                    shares();
                    years();
                }
            }
            for (int i = 0; i < 2 && land.valleys.size() > 1; i++) {
                two();
            }
            if (land.valleys.size() > 0) {
                room();
                if (land.things.size() > 0) {
                    lorries();
                    fires();
                }
            }
        }
        CHECK.finish();
    }

    private static int valley() {
        return random.nextInt(land.valleys.size());
    }

    private static int thing() {
        return random.nextInt(land.things.size());
    }

    /** Often one of the bounds, or next to it. */
    private static int within(int least, int most) {
        switch (random.nextInt(8)) {
            case 0:
                return least;
            case 1:
                return most;
            case 2:
                return Math.max(least, most - 1);
            default:
                return least + random.nextInt(most - least + 1);
        }
    }

    private static int sacksDrawn() {
        return random.nextInt(2) == 0 ? within(0, 999) : random.nextInt(60);
    }

    private static void due(String call, long got, long want) {
        CHECK.due(call + " in " + land.text, got, want);
    }

    private static void roadsTogether() {
        int day = within(1, land.days);
        for (int many = 0; many <= land.valleys.size(); many++) {
            due("together(" + day + ", " + many + ")", x.together(day, many), land.together(day, many));
        }
        for (int bits = 0; bits < 1 << land.valleys.size(); bits++) {
            due("set(" + day + ", " + bits + ")", x.set(day, bits), land.set(day, bits));
        }
    }

    private static void roads() {
        int valley = valley();
        long sum = 0;
        for (int day = 0; day <= land.days; day++) {
            due("shuts(" + valley + ", " + day + ")", x.shuts(valley, day), land.shuts(valley, day));
            sum += x.shuts(valley, day);
        }
        due("all of shuts(" + valley + ")", sum, Oracle.ALL);
        int day = within(1, land.days);
        due("by(" + valley + ", " + day + ")", x.by(valley, day), land.by(valley, day));
        int thousandths = within(1, 1000);
        due("when(" + valley + ", " + thousandths + ")", x.when(valley, thousandths), land.when(valley, thousandths));
    }

    private static void sacks() {
        int valley = valley();
        int thing = thing();
        int sacks = sacksDrawn();
        String of = "(" + valley + ", " + thing + ", " + sacks + ")";
        int day = within(0, land.days);
        due("wants day " + day + of, x.wants(valley, thing, day), land.wants(valley, thing, day));
        due("cost" + of, x.cost(valley, thing, sacks), land.cost(valley, thing, sacks));
        Map<Integer, Long> parts = land.wanting(valley, thing);
        BigInteger[] wholes = land.wholes(parts, thing, 0, false);
        if (sacks < 999) {
            due("worth" + of, x.worth(valley, thing, sacks), Oracle.thousandths(wholes[sacks].subtract(wholes[sacks + 1])));
        }
        due("best" + of, x.best(valley, thing), Oracle.least(wholes));
        due("sure" + of, x.sure(valley, thing, sacks), land.sure(valley, thing, sacks));
        int n = within(0, 1000);
        due("need " + n + of, x.need(valley, thing, n), land.need(valley, thing, n));
        due("need 0" + of, x.need(valley, thing, 0), land.need(valley, thing, 0));
        BigInteger[] flown = land.wholes(parts, thing, 0, true);
        due("flown" + of, x.flown(valley, thing, sacks), Oracle.thousandths(flown[sacks]));
        due("plane" + of, x.plane(valley, thing), Oracle.least(flown));
        int edge = -1;
        int harm = land.things.get(thing)[1];
        for (int lacking = 1; lacking <= land.planeCarry && edge < 0; lacking++) {
            edge = harm * lacking > land.planeCost ? lacking : -1;
        }
        due("edge" + of, x.edge(thing), edge);
    }

    private static void two() {
        int one = valley();
        int other = (one + 1 + random.nextInt(land.valleys.size() - 1)) % land.valleys.size();
        long sum = 0;
        for (int day = 0; day <= land.days && land.days < 12; day++) {
            for (int otherDay = 0; otherDay <= land.days; otherDay++) {
                String of = "(" + one + ", " + day + ", " + other + ", " + otherDay + ")";
                due("both" + of, x.both(one, day, other, otherDay), land.both(one, day, other, otherDay));
                sum += x.both(one, day, other, otherDay);
            }
        }
        due("all of both", land.days < 12 ? sum : Oracle.ALL, Oracle.ALL);
        for (int i = 0; i < 60 && land.days >= 12; i++) {
            int day = within(0, land.days);
            int otherDay = within(0, land.days);
            String of = "(" + one + ", " + day + ", " + other + ", " + otherDay + ")";
            due("both" + of, x.both(one, day, other, otherDay), land.both(one, day, other, otherDay));
        }
        due("fed", x.fed(one, other), land.fed(one, other));
        if (land.things.size() == 0) {
            return;
        }
        int thing = thing();
        int sacks = sacksDrawn();
        String of = "(" + one + ", " + other + ", " + thing + ", " + sacks + ")";
        BigInteger[] fork = land.wholes(land.wantingAtFork(one, other, thing), thing, land.mule, false);
        due("fork" + of, x.fork(one, other, thing, sacks), Oracle.thousandths(fork[sacks]));
        due("middle" + of, x.middle(one, other, thing), Oracle.least(fork));
        BigInteger[] first = land.wholes(land.wanting(one, thing), thing, 0, false);
        BigInteger[] second = land.wholes(land.wanting(other, thing), thing, 0, false);
        BigInteger apart = first[Oracle.least(first)].add(second[Oracle.least(second)]);
        due("shares" + of, x.shares(one, other, thing), Oracle.thousandths(apart.subtract(fork[Oracle.least(fork)])));
        Map<Integer, Long> withPath = land.wantingWithPath(one, other, thing);
        due("path" + of, x.path(one, other, thing, sacks), Oracle.thousandths(land.whole(withPath, thing, sacks, 0, false)));
    }

    private static void room() {
        int valley = valley();
        int[] best = land.pack(valley);
        due("packed(" + valley + ")", x.packed(valley), Oracle.thousandths(land.packedWhole(valley)));
        due("gap(" + valley + ")", x.gap(valley), land.gap(valley));
        for (int thing = 0; thing < land.things.size(); thing++) {
            due("pack(" + valley + ", " + thing + ")", x.pack(valley, thing), best[thing]);
        }
    }

    private static void lorries() {
        int valley = valley();
        int thing = thing();
        Oracle.Mornings mornings = land.new Mornings(valley, thing);
        long late = mornings.least[1][0][0];
        due("late(" + valley + ", " + thing + ")", x.late(valley, thing), late);
        due("last(" + valley + ", " + thing + ")", x.last(valley, thing), mornings.last());
        due("signs(" + valley + ", " + thing + ")", x.signs(valley, thing), land.signs(valley, thing, late));
        for (int i = 0; i < 25; i++) {
            int day = within(1, land.days);
            int sacks = i < 12 ? within(0, 600) : random.nextInt(50);
            int sky = random.nextInt(2);
            due("today(" + valley + ", " + thing + ", " + day + ", " + sky + ", " + sacks + ")",
                x.today(valley, thing, day, sky == 1, sacks), mornings.sent[day][sky][sacks]);
        }
    }

    private static void shares() {
        int[] asked = new int[land.valleys.size()];
        long[] numbers = new long[asked.length];
        int all = 0;
        for (int v = 0; v < asked.length; v++) {
            asked[v] = random.nextInt(4) == 0 ? 0 : random.nextBoolean() ? within(0, 999) : random.nextInt(20);
            numbers[v] = asked[v];
            all += asked[v];
        }
        Check.row(x, 1, 1, numbers);
        int valley = valley();
        int thing = thing();
        int rule = random.nextInt(2);
        int sacks = random.nextInt(4) == 0 ? within(0, 99999) : random.nextInt(all + 5);
        String of = "(" + java.util.Arrays.toString(asked) + ", " + rule + ", " + sacks + ", " + valley + ", " + thing + ")";
        due("given" + of, x.given(1, rule, sacks, valley), Oracle.given(asked, rule, sacks, valley));
        long[] want = land.asks(asked, rule, sacks, valley, thing);
        due("asks" + of, x.asks(1, rule, sacks, valley, thing), want[0]);
        due("pays" + of, x.pays(1, rule, sacks, valley, thing), want[1]);
    }

    private static void fires() {
        int valley = valley();
        int thing = thing();
        int n = within(0, 100);
        for (int i = 0; i < 4; i++) {
            int sacks = sacksDrawn();
            String of = "(" + valley + ", " + thing + ", " + sacks + ", " + n + ")";
            due("burnt" + of, x.burnt(valley, thing, sacks, n), land.burnt(valley, thing, sacks, n));
            due("spread" + of, x.spread(valley, thing, sacks, n), land.spread(valley, thing, sacks, n));
        }
        int least = 0;
        long leastCost = Long.MAX_VALUE;
        for (int sacks = 0; sacks <= 999; sacks++) {
            long cost = land.spread(valley, thing, sacks, n);
            if (cost < leastCost) {
                leastCost = cost;
                least = sacks;
            }
        }
        due("bear(" + valley + ", " + thing + ", " + n + ")", x.bear(valley, thing, n), least);
    }

    private static void years() {
        int seed = within(0, 2000000000);
        int[] year = land.year(seed);
        int shut = 0;
        for (int day : year) {
            shut += day == 0 ? 0 : 1;
        }
        due("run(" + seed + ")", x.run(seed), shut);
        int valley = valley();
        int thing = thing();
        int sacks = sacksDrawn();
        due("shut(" + valley + ")", x.shut(valley), year[valley]);
        int[] want = land.lacks(valley, thing, sacks, year[valley]);
        for (int what = 0; what < 3; what++) {
            due("lacks " + what + " (" + valley + ", " + thing + ", " + sacks + ")", x.lacks(valley, thing, sacks, what), want[what]);
        }
        manyYears(seed, valley, thing, sacks);
        rowOfLorries(valley, thing, year[valley]);
    }

    private static void manyYears(int seed, int valley, int thing, int sacks) {
        int n = random.nextBoolean() ? within(1, 100) : 1 + random.nextInt(20);
        int[] want = new int[4];
        for (int i = 0; i < n; i++) {
            int day = land.year((long) seed + i)[valley];
            int[] lacks = land.lacks(valley, thing, sacks, day);
            want[0] += day == 0 ? 0 : 1;
            want[1] += lacks[0];
            want[2] = Math.max(want[2], lacks[0]);
            want[3] += lacks[1];
        }
        for (int what = 0; what < 4; what++) {
            String of = "(" + seed + ", " + n + ", " + valley + ", " + thing + ", " + sacks + ", " + what + ")";
            due("years" + of, x.years(seed, n, valley, thing, sacks, what), want[what]);
        }
    }

    private static void rowOfLorries(int valley, int thing, int shutDay) {
        long[] lorries = new long[random.nextInt(land.days + 1)];
        int wrongDay = 0;
        long paid = 0;
        int lying = 0;
        boolean careful = random.nextInt(4) > 0;
        for (int i = 0; i < lorries.length; i++) {
            boolean open = shutDay == 0 || i + 1 <= shutDay;
            lorries[i] = careful ? (open ? random.nextInt(land.many + 1) : 0) : random.nextInt(land.many + 3) - 1;
            boolean wrong = lorries[i] != 0 && (!open || lorries[i] < 0 || lorries[i] > land.many);
            wrongDay = wrong && wrongDay == 0 ? i + 1 : wrongDay;
            paid += 1000L * lorries[i] * (land.cost + (long) land.carry * land.things.get(thing)[0]);
            lying += (int) lorries[i] * land.carry;
        }
        Check.row(x, 2, 0, lorries);
        due("judge " + java.util.Arrays.toString(lorries), x.judge(2, valley), wrongDay);
        int wanted = land.wants(valley, thing, shutDay);
        paid += 1000L * Math.max(0, wanted - lying) * land.things.get(thing)[1];
        paid += 1000L * Math.max(0, lying - wanted) * land.things.get(thing)[2];
        due("paid " + java.util.Arrays.toString(lorries), x.paid(2, valley, thing), wrongDay == 0 ? paid : -1000000000000L);
    }
}
