import java.util.Random;

/**
 * Calls at random, with wild arguments, in all states: nothing throws, the same calls give the same answers, an object
 * that has been used long answers as a fresh one does, and what a run makes stays small.
 */
public final class WildTest {
    private static final Check CHECK = new Check();
    private static final int CALLS = 49;

    public static void main(String[] args) {
        int runs = args.length > 0 ? Integer.parseInt(args[0]) : 300;
        for (int seed = 1; seed <= runs; seed++) {
            wildRun(seed);
        }
        for (int seed = 1; seed <= 150; seed++) {
            usedAsFresh(seed);
        }
        room();
        CHECK.finish();
    }

    private static int wild(Random random) {
        int[] edges = {-1, 0, 1, 2, 3, 4, 5, 6, 59, 60, 61, 99, 100, 101, 600, 601, 998, 999, 1000, 1001, 2000000000, 2000000001,
            Integer.MAX_VALUE, Integer.MIN_VALUE, Integer.MAX_VALUE - 1, Integer.MIN_VALUE + 1};
        switch (random.nextInt(8)) {
            case 0:
                return edges[random.nextInt(edges.length)];
            case 1:
                return random.nextInt();
            case 2:
                return random.nextInt(1000);
            default:
                return random.nextInt(4);
        }
    }

    private static long call(RoadShut x, int which, int[] a, long v) {
        switch (which) {
            case 0: return x.shuts(a[0], a[1]);
            case 1: return x.by(a[0], a[1]);
            case 2: return x.both(a[0], a[1], a[2], a[3]);
            case 3: return x.together(a[0], a[1]);
            case 4: return x.set(a[0], a[1]);
            case 5: return x.when(a[0], a[1]);
            case 6: return x.wants(a[0], a[1], a[2]);
            case 7: return x.cost(a[0], a[1], a[2]);
            case 8: return x.worth(a[0], a[1], a[2]);
            case 9: return x.best(a[0], a[1]);
            case 10: return x.sure(a[0], a[1], a[2]);
            case 11: return x.need(a[0], a[1], a[2]);
            case 12: return x.packed(a[0]);
            case 13: return x.pack(a[0], a[1]);
            case 14: return x.gap(a[0]);
            case 15: return x.late(a[0], a[1]);
            case 16: return x.today(a[0], a[1], a[2], a[3] % 2 == 0, a[4]);
            case 17: return x.last(a[0], a[1]);
            case 18: return x.signs(a[0], a[1]);
            case 19: return x.fork(a[0], a[1], a[2], a[3]);
            case 20: return x.middle(a[0], a[1], a[2]);
            case 21: return x.shares(a[0], a[1], a[2]);
            case 22: return x.flown(a[0], a[1], a[2]);
            case 23: return x.plane(a[0], a[1]);
            case 24: return x.edge(a[0]);
            case 25: return x.path(a[0], a[1], a[2], a[3]);
            case 26: return x.fed(a[0], a[1]);
            case 27: return x.given(a[0], a[1], a[2], a[3]);
            case 28: return x.asks(a[0], a[1], a[2], a[3], a[4]);
            case 29: return x.pays(a[0], a[1], a[2], a[3], a[4]);
            case 30: return x.burnt(a[0], a[1], a[2], a[3]);
            case 31: return x.spread(a[0], a[1], a[2], a[3]);
            case 32: return x.bear(a[0], a[1], a[2]);
            case 33: return x.years(a[0], a[1], a[2], a[3], a[4], a[5]);
            case 34: return x.shut(a[0]);
            case 35: return x.lacks(a[0], a[1], a[2], a[3]);
            case 36: return x.judge(a[0], a[1]);
            case 37: return x.paid(a[0], a[1], a[2]);
            case 38: return x.fault(a[0]);
            case 39: return x.count(a[0]);
            case 40: return x.run(a[0]);
            case 41: return x.told(a[0]);
            case 42: return x.keep(a[0]);
            case 43: return x.back(a[0]);
            case 44: return x.row(a[0], a[1], a[2]);
            case 45: return x.write(a[0], a[1], v);
            case 46: return x.paste(a[0], a[1], a[2], a[3], a[4]);
            case 47: return x.end(a[0]);
            case 48: return x.feed(a[0], a[1], a[2], a[3], a[4]);
            default: return x.land();
        }
    }

    private static void wildRun(int seed) {
        Random random = new Random(seed);
        RoadShut x = new RoadShut();
        RoadShut twin = new RoadShut();
        int[] a = new int[6];
        for (int i = 0; i < 512; i++) {
            if (random.nextInt(60) == 0 || i == 0) {
                String text = Oracle.drawn(random).text;
                if (text.length() <= 1600) {
                    x.end(0);
                    twin.end(0);
                    CHECK.due("land", Check.tell(x, text), Check.tell(twin, text));
                }
            }
            for (int j = 0; j < a.length; j++) {
                a[j] = wild(random);
            }
            int which = random.nextInt(CALLS + 1);
            long v = random.nextBoolean() ? random.nextInt(4) : random.nextLong();
            CHECK.due("call " + which + " of two like objects", call(x, which, a, v), call(twin, which, a, v));
        }
    }

    private static RoadShut used = new RoadShut();

    private static void usedAsFresh(int seed) {
        Random random = new Random(7000 + seed);
        String text = Oracle.drawn(random).text;
        if (text.length() > 1600) {
            return;
        }
        if (seed % 4 == 0) {
            used = new RoadShut();
        }
        used.end(0);
        Check.tell(used, text);
        int[] a = new int[6];
        for (int i = 0; i < 60; i++) {
            for (int j = 0; j < a.length; j++) {
                a[j] = random.nextInt(3);
            }
            int which = random.nextInt(34);
            if (which >= 27 && which <= 29) {
                continue;
            }
            RoadShut fresh = Check.land(text);
            CHECK.due("call " + which + " of a used object", call(used, which, a, 0), call(fresh, which, a, 0));
        }
    }

    /** 7.3 million elements are what a whole run may make; the dearest runs of ours must stay far below. */
    private static void room() {
        StringBuilder text = new StringBuilder("winter days 60 first 50 snow 60 clear 30;thing price 1 harm 90 back 1;"
            + "thing price 2 harm 80 back 2;thing price 3 harm 70 back 3;");
        for (int i = 0; i < 6; i++) {
            text.append("valley shut ").append(i + 2).append(" room 999 wants 9 9 9;");
        }
        text.append("lorry many 9 carry 1 cost 1;path 0 1 days 30;");
        com.sun.management.ThreadMXBean bean = (com.sun.management.ThreadMXBean) java.lang.management.ManagementFactory.getThreadMXBean();
        long thread = Thread.currentThread().getId();
        int[][] args = new int[50][];
        for (int which = 0; which < 50; which++) {
            args[which] = new int[] {0, 1, 1, 1, 1, 1};
        }
        args[40] = new int[] {9, 0, 0, 0, 0, 0};
        args[44] = new int[] {0, 3, 60, 0, 0, 0};
        for (int which = 0; which < 50; which++) {
            RoadShut x = Check.land(text.toString());
            x.run(1);
            x.row(1, 0, 6);
            long before = bean.getThreadAllocatedBytes(thread);
            for (int i = 0; i < 512; i++) {
                call(x, which, args[which], 1);
            }
            long bytes = bean.getThreadAllocatedBytes(thread) - before;
            CHECK.holds("512 calls of kind " + which + " made " + bytes + " bytes", bytes < 1000000);
        }
        long before = bean.getThreadAllocatedBytes(thread);
        RoadShut x = new RoadShut();
        x.count(0);
        long bytes = bean.getThreadAllocatedBytes(thread) - before;
        CHECK.holds("an object has " + bytes + " bytes", bytes < 110000);
    }
}
