import java.util.ArrayList;
import java.util.List;
import java.util.Random;
import java.util.TreeSet;
import java.util.function.Supplier;

/**
 * Each argument of each call (promises 6 to 45): within its bounds it is taken, on either side of them it is refused as the
 * document says, whatever the others are; and a call that was refused, or that only asks, changes nothing.
 */
public final class ArgumentsTest {
    private static final Check CHECK = new Check();
    private static final long NOTHING = -1000000000000L;

    /** A call of the face, by a row of arguments. */
    private interface Call {
        long of(RoadShut x, int[] a);
    }

    /** A call with the bounds of each argument; two of them must be unlike if `twins` says so. */
    private static final class Rule {
        final String name;
        final Call call;
        final long refused;
        final int[][] bounds;
        boolean twins;
        int otherTwin;

        Rule(String name, long refused, Call call, int[]... bounds) {
            this.name = name;
            this.call = call;
            this.refused = refused;
            this.bounds = bounds;
        }

        Rule unlike(int other) {
            twins = true;
            otherTwin = other;
            return this;
        }

        boolean takes(int[] a) {
            for (int i = 0; i < bounds.length; i++) {
                if (a[i] < bounds[i][0] || a[i] > bounds[i][1]) {
                    return false;
                }
            }
            return !twins || a[0] != a[otherTwin];
        }

        boolean canTake() {
            for (int[] bound : bounds) {
                if (bound[0] > bound[1]) {
                    return false;
                }
            }
            return !twins || bounds[0][0] < bounds[0][1];
        }
    }

    private static int[] b(int least, int most) {
        return new int[] {least, most};
    }

    private static List<Rule> rules(int valleys, int things, int days) {
        int[] v = b(0, valleys - 1);
        int[] t = b(0, things - 1);
        int[] day = b(1, days);
        int[] never = days == 0 ? b(0, -1) : b(0, days);
        int[] sacks = b(0, 999);
        List<Rule> all = new ArrayList<>();
        all.add(new Rule("shuts", -2, (x, a) -> x.shuts(a[0], a[1]), v, never));
        all.add(new Rule("by", -2, (x, a) -> x.by(a[0], a[1]), v, day));
        all.add(new Rule("both", -2, (x, a) -> x.both(a[0], a[1], a[2], a[3]), v, never, v, never).unlike(2));
        all.add(new Rule("together", -2, (x, a) -> x.together(a[0], a[1]), day, b(0, valleys)));
        all.add(new Rule("set", -2, (x, a) -> x.set(a[0], a[1]), day, b(0, (1 << valleys) - 1)));
        all.add(new Rule("when", -2, (x, a) -> x.when(a[0], a[1]), v, b(1, 1000)));
        all.add(new Rule("wants", -2, (x, a) -> x.wants(a[0], a[1], a[2]), v, t, never));
        all.add(new Rule("cost", -2, (x, a) -> x.cost(a[0], a[1], a[2]), v, t, sacks));
        all.add(new Rule("worth", NOTHING, (x, a) -> x.worth(a[0], a[1], a[2]), v, t, b(0, 998)));
        all.add(new Rule("best", -2, (x, a) -> x.best(a[0], a[1]), v, t));
        all.add(new Rule("sure", -2, (x, a) -> x.sure(a[0], a[1], a[2]), v, t, sacks));
        all.add(new Rule("need", -2, (x, a) -> x.need(a[0], a[1], a[2]), v, t, b(0, 1000)));
        all.add(new Rule("packed", -2, (x, a) -> x.packed(a[0]), v));
        all.add(new Rule("pack", -2, (x, a) -> x.pack(a[0], a[1]), v, t));
        all.add(new Rule("gap", -2, (x, a) -> x.gap(a[0]), v));
        all.add(new Rule("late", -2, (x, a) -> x.late(a[0], a[1]), v, t));
        all.add(new Rule("today", -2, (x, a) -> x.today(a[0], a[1], a[2], false, a[3]), v, t, day, b(0, 600)));
        all.add(new Rule("today behind snow", -2, (x, a) -> x.today(a[0], a[1], a[2], true, a[3]), v, t, day, b(0, 600)));
        all.add(new Rule("last", -2, (x, a) -> x.last(a[0], a[1]), v, t));
        all.add(new Rule("signs", NOTHING, (x, a) -> x.signs(a[0], a[1]), v, t));
        all.add(new Rule("fork", -2, (x, a) -> x.fork(a[0], a[1], a[2], a[3]), v, v, t, sacks).unlike(1));
        all.add(new Rule("middle", -2, (x, a) -> x.middle(a[0], a[1], a[2]), v, v, t).unlike(1));
        all.add(new Rule("shares", NOTHING, (x, a) -> x.shares(a[0], a[1], a[2]), v, v, t).unlike(1));
        all.add(new Rule("flown", -2, (x, a) -> x.flown(a[0], a[1], a[2]), v, t, sacks));
        all.add(new Rule("plane", -2, (x, a) -> x.plane(a[0], a[1]), v, t));
        all.add(new Rule("edge", -2, (x, a) -> x.edge(a[0]), t));
        all.add(new Rule("path", -2, (x, a) -> x.path(a[0], a[1], a[2], a[3]), v, v, t, sacks).unlike(1));
        all.add(new Rule("fed", -2, (x, a) -> x.fed(a[0], a[1]), v, v).unlike(1));
        all.add(new Rule("burnt", -2, (x, a) -> x.burnt(a[0], a[1], a[2], a[3]), v, t, sacks, b(0, 100)));
        all.add(new Rule("spread", -2, (x, a) -> x.spread(a[0], a[1], a[2], a[3]), v, t, sacks, b(0, 100)));
        all.add(new Rule("bear", -2, (x, a) -> x.bear(a[0], a[1], a[2]), v, t, b(0, 100)));
        all.add(new Rule("shut", -2, (x, a) -> x.shut(a[0]), v));
        all.add(new Rule("lacks", -2, (x, a) -> x.lacks(a[0], a[1], a[2], a[3]), v, t, sacks, b(0, 2)));
        all.add(new Rule("years", -2, (x, a) -> x.years(a[0], a[1], a[2], a[3], a[4], a[5]), b(0, 2000000000), b(1, 100), v, t, sacks,
            b(0, 3)));
        return all;
    }

    /** Those by which a SLOT's row of as many numbers as VALLEYS is asked; SLOTS 0 to 2 have one, 3 has nothing. */
    private static List<Rule> rulesOfRows(int valleys, int things) {
        int[] v = b(0, valleys - 1);
        int[] t = b(0, things - 1);
        int[] slot = b(0, 2);
        int[] rule = b(0, 1);
        int[] shared = b(0, 99999);
        List<Rule> all = new ArrayList<>();
        all.add(new Rule("given", -2, (x, a) -> x.given(a[0], a[1], a[2], a[3]), slot, rule, shared, v));
        all.add(new Rule("asks", -2, (x, a) -> x.asks(a[0], a[1], a[2], a[3], a[4]), slot, rule, shared, v, t));
        all.add(new Rule("pays", -2, (x, a) -> x.pays(a[0], a[1], a[2], a[3], a[4]), slot, rule, shared, v, t));
        all.add(new Rule("judge", -2, (x, a) -> x.judge(a[0], a[1]), slot, v));
        all.add(new Rule("paid", NOTHING, (x, a) -> x.paid(a[0], a[1], a[2]), slot, v, t));
        return all;
    }

    private static final String NONE = "winter days 2 first 50 snow 50 clear 50;";
    private static final String ONE = "winter days 1 first 50 snow 0 clear 0;thing price 3 harm 8 back 2;valley shut 50 room 5 wants 4;"
        + "lorry many 1 carry 1 cost 1;plane carry 1 cost 7;";
    private static final String SOME = "winter days 3 first 50 snow 60 clear 40;thing price 2 harm 10 back 1;thing price 1 harm 3 back 0;"
        + "valley shut 50 room 4 wants 2 3;valley shut 20 room 9 wants 1 1;lorry many 2 carry 2 cost 1;plane carry 2 cost 15;mule 3;"
        + "path 0 1 days 1;";
    private static final String MOST = "winter days 60 first 100 snow 99 clear 98;" + "thing price 99 harm 999 back 99;".repeat(3)
        + "valley shut 9 room 999 wants 9 9 9;".repeat(6) + "lorry many 9 carry 50 cost 999;plane carry 50 cost 9999;mule 99;"
        + "path 0 1 days 30;path 0 2 days 30;path 0 3 days 30;path 0 4 days 30;path 0 5 days 30;path 1 2 days 30;path 1 3 days 30;"
        + "path 5 4 days 30;";

    public static void main(String[] args) {
        land("", 0, 0, 0);
        land(NONE, 0, 0, 2);
        land(NONE + "thing price 1 harm 1 back 1;", 0, 1, 2);
        land(NONE + "valley shut 50 room 5 wants;", 1, 0, 2);
        land(NONE + "valley shut 50 room 5 wants;valley shut 50 room 5 wants;", 2, 0, 2);
        land(ONE, 1, 1, 1);
        land(SOME, 2, 2, 3);
        land(MOST, 6, 3, 60);
        seedsAndSlots();
        countsAndImages();
        CHECK.finish();
    }

    private static RoadShut made(String text, int valleys, boolean yearToo) {
        RoadShut x = new RoadShut();
        Check.tell(x, text);
        x.keep(1);
        for (int slot = 0; slot < 3; slot++) {
            x.row(slot, slot, valleys);
        }
        // one lorry for each, which is a row that asks, a row that sends and a row that tells, unless the winter is short
        for (int i = 0; i < Math.min(valleys, x.count(2)); i++) {
            x.write(0, i, 1);
        }
        if (yearToo) {
            x.run(77);
            x.keep(2);
        }
        Check.tape(x, NONE + "mule 7;");
        return x;
    }

    private static void land(String text, int valleys, int things, int days) {
        Supplier<RoadShut> made = () -> made(text, valleys, days > 0);
        List<Rule> rules = rules(valleys, things, days);
        rules.addAll(rulesOfRows(valleys, things));
        Random random = new Random(text.length());
        for (Rule rule : rules) {
            for (int round = 0; round < 3; round++) {
                askAround(rule, made, base(rule, random));
            }
            int[] taken = base(rule, random);
            CHECK.holds(rule.name + " takes some, or none of this LAND", rule.canTake() == rule.takes(taken));
            RoadShut asked = made.get();
            rule.call.of(asked, taken);
            CHECK.holds(rule.name + " only asks", Seen.of(asked).equals(Seen.of(made.get())));
        }
    }

    /** Each argument in turn at and beyond its bounds, the others as they are. */
    private static void askAround(Rule rule, Supplier<RoadShut> made, int[] base) {
        RoadShut x = made.get();
        boolean ofRows = rule.name.matches("given|asks|pays|judge");
        for (int i = 0; i < base.length; i++) {
            for (int value : candidates(rule.bounds[i])) {
                int[] a = base.clone();
                a[i] = value;
                ask(rule, x, a, ofRows && i == 0 && value == 3);
            }
        }
        CHECK.holds(rule.name + " refused and taken changed nothing", Seen.of(x).equals(Seen.of(made.get())));
    }

    private static int[] base(Rule rule, Random random) {
        int[] a = new int[rule.bounds.length];
        for (int i = 0; i < a.length; i++) {
            int most = Math.max(rule.bounds[i][0], rule.bounds[i][1]);
            a[i] = rule.bounds[i][0] + random.nextInt(most - rule.bounds[i][0] + 1);
        }
        if (rule.twins && a[0] == a[rule.otherTwin]) {
            a[0] = a[0] == rule.bounds[0][0] ? Math.max(a[0], rule.bounds[0][1]) : rule.bounds[0][0];
        }
        return a;
    }

    private static Iterable<Integer> candidates(int[] bound) {
        TreeSet<Integer> all = new TreeSet<>();
        for (int near = -2; near <= 2; near++) {
            all.add(bound[0] + near);
            all.add(bound[1] + near);
        }
        int[] far = {Integer.MIN_VALUE, Integer.MIN_VALUE + 1, -65536, 65536, 1 << 30, Integer.MAX_VALUE - 1, Integer.MAX_VALUE};
        for (int each : far) {
            all.add(each);
        }
        return all;
    }

    private static void ask(Rule rule, RoadShut x, int[] a, boolean ofNothing) {
        long got = rule.call.of(x, a);
        String call = rule.name + java.util.Arrays.toString(a);
        boolean othersTaken = othersTaken(rule, a);
        if (ofNothing && othersTaken) {
            CHECK.due(call + " of a SLOT with nothing", got, -6);
        } else if (!rule.takes(a)) {
            CHECK.due(call, got, rule.refused);
        } else if (rule.name.equals("paid") || rule.name.equals("judge")) {
            CHECK.holds(call + " is taken, not " + got, got == rule.refused == rowTooLong(rule, x));
        } else {
            CHECK.holds(call + " is taken, not " + got, got != rule.refused);
        }
    }

    /** A row of as many numbers as VALLEYS is longer than this winter. */
    private static boolean rowTooLong(Rule rule, RoadShut x) {
        return x.count(0) > x.count(2);
    }

    private static boolean othersTaken(Rule rule, int[] a) {
        int[] others = a.clone();
        others[0] = rule.bounds[0][0];
        return rule.takes(others);
    }

    private static void seedsAndSlots() {
        int[] refusedSeeds = {Integer.MIN_VALUE, -2000000000, -1, 2000000001, Integer.MAX_VALUE};
        int[] refusedSlots = {Integer.MIN_VALUE, -4, -1, 4, 5, 1 << 30, Integer.MAX_VALUE};
        for (boolean yearToo : new boolean[] {false, true}) {
            Supplier<RoadShut> made = () -> made(SOME, 2, yearToo);
            for (int seed : refusedSeeds) {
                Seen.stays(CHECK, "run(" + seed + ")", made, x -> x.run(seed), -2);
            }
            for (int slot : refusedSlots) {
                Seen.stays(CHECK, "told(" + slot + ")", made, x -> x.told(slot), -2);
            }
            Seen.stays(CHECK, "told(3) of nothing", made, x -> x.told(3), -6);
        }
        for (int seed : new int[] {0, 1, 1999999999, 2000000000}) {
            RoadShut x = made(SOME, 2, false);
            int shut = x.run(seed);
            CHECK.due("run(" + seed + ")", shut, (x.shut(0) > 0 ? 1 : 0) + (x.shut(1) > 0 ? 1 : 0));
            CHECK.due("a YEAR of " + seed, x.count(6), 1);
            CHECK.due("years of it", x.years(seed, 1, 0, 0, 0, 0), x.shut(0) > 0 ? 1 : 0);
        }
    }

    private static void countsAndImages() {
        int[] far = {Integer.MIN_VALUE, -1, 8, 9, 1 << 30, Integer.MAX_VALUE};
        Supplier<RoadShut> made = () -> made(SOME, 2, true);
        for (int what : far) {
            Seen.stays(CHECK, "count(" + what + ")", made, x -> x.count(what), -1);
        }
        for (int k : new int[] {Integer.MIN_VALUE, -1, 3, 4, 1 << 30, Integer.MAX_VALUE}) {
            Seen.stays(CHECK, "keep(" + k + ")", made, x -> x.keep(k), -2);
            Seen.stays(CHECK, "back(" + k + ")", made, x -> x.back(k), -2);
        }
        Seen.stays(CHECK, "back(0) of nothing", made, x -> x.back(0), -6);
    }
}
