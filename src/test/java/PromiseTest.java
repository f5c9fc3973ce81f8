/** Promises 6 to 51 one by one: answers worked out by hand, the edges the document names, and wrong inputs. */
public final class PromiseTest {
    private static final Check CHECK = new Check();
    private static final long NOTHING = -1000000000000L;
    private static final long ALL = 1000000000000L;
    private static final long BILLION = 1000000000L;
    private static final int[] FAR = {Integer.MIN_VALUE, -1000, -1, 1000000, Integer.MAX_VALUE};

    private static final String LAND = "winter days 3 first 50 snow 60 clear 40;\n"
        + "thing price 2 harm 10 back 1;\n"
        + "valley shut 50 room 1 wants 2;\n"
        + "valley shut 20 room 9 wants 1;\n"
        + "lorry many 2 carry 2 cost 1;\n"
        + "plane carry 2 cost 15;\n"
        + "mule 3;\n"
        + "path 0 1 days 1;\n";

    public static void main(String[] args) {
        promise6shuts();
        promise7by();
        promise8both();
        promise9and10ways();
        promise11when();
        promise12wants();
        promise13cost();
        promise14worth();
        promise15best();
        promise16and17sure();
        promise18to20room();
        promise21to24lorries();
        lorriesAtTheirEdges();
        promise25to27fork();
        promise28to30planes();
        promise31and32paths();
        promise33given();
        promise34and35asks();
        promise36to38fires();
        promise39run();
        promise40told();
        promise41and42year();
        promise43and44lorriesSent();
        promise45years();
        promise46count();
        promise47and48images();
        promise49and50rows();
        promise51paste();
        withoutThings();
        withoutLand();
        CHECK.finish();
    }

    private static RoadShut land() {
        return Check.land(LAND);
    }

    private static void due(String call, long got, long want) {
        CHECK.due(call, got, want);
    }

    private static void promise6shuts() {
        RoadShut x = land();
        due("shuts(0, 1)", x.shuts(0, 1), 250 * BILLION);
        due("shuts(0, 2)", x.shuts(0, 2), 175 * BILLION);
        due("shuts(0, 3)", x.shuts(0, 3), 132500000000L);
        due("shuts(0, 0)", x.shuts(0, 0), 442500000000L);
        due("shuts(1, 1)", x.shuts(1, 1), 100 * BILLION);
        due("shuts(1, 2)", x.shuts(1, 2), 88 * BILLION);
        due("shuts(1, 3)", x.shuts(1, 3), 79040000000L);
        due("shuts(1, 0)", x.shuts(1, 0), 732960000000L);
        due("shuts(0, 4)", x.shuts(0, 4), -2);
        due("shuts(2, 1)", x.shuts(2, 1), -2);
        for (int far : FAR) {
            due("shuts far valley " + far, x.shuts(far, 1), -2);
            due("shuts far day " + far, x.shuts(0, far), -2);
        }
        RoadShut cut = Check.land("winter days 8 first 1 snow 1 clear 0;valley shut 50 room 0 wants;");
        due("halves of a hundredth, day 4", cut.shuts(0, 4), 625);
        due("6 of 6.25 have snow, half of them shut", cut.shuts(0, 5), 3);
        due("none of 0.03", cut.shuts(0, 6), 0);
        due("nor later", cut.shuts(0, 8), 0);
        due("what was cut stays open", cut.shuts(0, 0), ALL - 5000000000L - 25000000L - 125000L - 625 - 3);
        RoadShut always = Check.land("winter days 60 first 100 snow 0 clear 0;valley shut 100 room 0 wants;");
        due("shut at once", always.shuts(0, 1), ALL);
        due("never", always.shuts(0, 0), 0);
        due("day 60", always.shuts(0, 60), 0);
        RoadShut atLast = Check.land("winter days 60 first 0 snow 0 clear 1;valley shut 1 room 0 wants;valley shut 2 room 0 wants;");
        long sum = 0;
        long sumOfTwo = 0;
        for (int day = 0; day <= 60; day++) {
            sum += atLast.shuts(0, day);
            sumOfTwo += atLast.both(0, day, 1, 60);
        }
        due("sixty DAYS are all", sum, ALL);
        CHECK.holds("of two too, but for what is cut otherwise", Math.abs(sumOfTwo - atLast.shuts(1, 60)) < 1000);
        CHECK.holds("some on the last", atLast.shuts(0, 60) > 0 && atLast.shuts(0, 60) < atLast.shuts(0, 59));
        due("day 61", atLast.shuts(0, 61), -2);
    }

    private static void promise7by() {
        RoadShut x = land();
        due("by(0, 1)", x.by(0, 1), 250 * BILLION);
        due("by(0, 2)", x.by(0, 2), 425 * BILLION);
        due("by(0, 3)", x.by(0, 3), 557500000000L);
        due("by(0, 0)", x.by(0, 0), -2);
        due("by(0, 4)", x.by(0, 4), -2);
        due("by(2, 1)", x.by(2, 1), -2);
        for (int far : FAR) {
            due("by far valley " + far, x.by(far, 1), -2);
            due("by far day " + far, x.by(0, far), -2);
        }
    }

    private static void promise8both() {
        RoadShut x = land();
        due("both(0, 1, 1, 1)", x.both(0, 1, 1, 1), 50 * BILLION);
        due("both(0, 2, 1, 2)", x.both(0, 2, 1, 2), 32 * BILLION);
        due("both(0, 1, 1, 2)", x.both(0, 1, 1, 2), 24 * BILLION);
        due("both(0, 2, 1, 1)", x.both(0, 2, 1, 1), 15 * BILLION);
        due("both(1, 1, 0, 2)", x.both(1, 1, 0, 2), 15 * BILLION);
        long never = x.shuts(0, 0) - x.both(0, 0, 1, 1) - x.both(0, 0, 1, 2) - x.both(0, 0, 1, 3);
        due("both(0, 0, 1, 0)", x.both(0, 0, 1, 0), never);
        due("one twice", x.both(1, 1, 1, 1), -2);
        due("day 4", x.both(0, 4, 1, 1), -2);
        due("other day 4", x.both(0, 1, 1, 4), -2);
        due("valley 2", x.both(0, 1, 2, 1), -2);
        for (int far : FAR) {
            due("both far one " + far, x.both(far, 1, 1, 1), -2);
            due("both far day " + far, x.both(0, far, 1, 1), -2);
            due("both far other " + far, x.both(0, 1, far, 1), -2);
            due("both far other day " + far, x.both(0, 1, 1, far), -2);
        }
        cutsOfTwo();
    }

    /** DAY 5 has 6 of 6.25 PARTS with snow and both roads open: which is split first can be seen in what is cut. */
    private static void cutsOfTwo() {
        RoadShut x = Check.land("winter days 6 first 1 snow 1 clear 0;valley shut 10 room 0 wants;valley shut 50 room 0 wants;");
        // both open: 4.5e9, 2.025e7, 91125, 410 of 911 (91 shut, 820 open, 410 of these); 4 of 4.10
        due("day 4, the former alone", x.both(0, 4, 1, 0), 46);
        due("day 4, the other alone", x.both(0, 0, 1, 4), 410);
        due("day 4, both", x.both(0, 4, 1, 4), 45);
        due("the other first: 455 shut, 456 open, 45 of each", x.both(1, 4, 0, 4), 45);
        due("the other first: the former alone", x.both(1, 0, 0, 4), 45);
        due("the other first: the other alone", x.both(1, 4, 0, 0), 410);
        due("day 5, both", x.both(0, 5, 1, 5), 0);
        due("day 5, the other alone", x.both(0, 0, 1, 5), 2);
    }

    private static void promise9and10ways() {
        RoadShut x = land();
        long[] first = {700, 200, 50, 50};
        long[] second = {508, 304, 67, 121};
        for (int bits = 0; bits < 4; bits++) {
            due("set(1, " + bits + ")", x.set(1, bits), first[bits] * BILLION);
            due("set(2, " + bits + ")", x.set(2, bits), second[bits] * BILLION);
        }
        due("together(1, 0)", x.together(1, 0), 700 * BILLION);
        due("together(1, 1)", x.together(1, 1), 250 * BILLION);
        due("together(2, 1)", x.together(2, 1), 371 * BILLION);
        due("together(2, 2)", x.together(2, 2), 121 * BILLION);
        due("together(1, 3)", x.together(1, 3), -2);
        due("together(0, 0)", x.together(0, 0), -2);
        due("together(4, 0)", x.together(4, 0), -2);
        due("set(1, 4)", x.set(1, 4), -2);
        due("set(0, 0)", x.set(0, 0), -2);
        due("set(4, 0)", x.set(4, 0), -2);
        for (int far : FAR) {
            due("together far day " + far, x.together(far, 0), -2);
            due("together far many " + far, x.together(1, far), -2);
            due("set far day " + far, x.set(far, 0), -2);
            due("set far bits " + far, x.set(1, far), -2);
        }
        StringBuilder six = new StringBuilder("winter days 9 first 37 snow 71 clear 13;");
        for (int i = 0; i < 6; i++) {
            six.append("valley shut ").append(7 + 11 * i).append(" room 1 wants;");
        }
        RoadShut all = Check.land(six.toString());
        long sum = 0;
        for (int bits = 0; bits < 64; bits++) {
            sum += all.set(9, bits);
        }
        due("all ways of six", sum, ALL);
        due("set(9, 64)", all.set(9, 64), -2);
        due("together(9, 7)", all.together(9, 7), -2);
        RoadShut none = Check.land("winter days 2 first 50 snow 50 clear 50;");
        due("no roads, none shut", none.together(2, 0), ALL);
        due("no roads, one shut", none.together(2, 1), -2);
        due("no roads, the empty set", none.set(1, 0), ALL);
        // 1e8 with snow on DAY 2 of way 1, 1e8 of way 0: laid together only when split by all
        RoadShut laid = Check.land("winter days 5 first 1 snow 1 clear 0;valley shut 50 room 1 wants;valley shut 50 room 1 wants;");
        long shutByFour = 0;
        for (int bits = 1; bits < 4; bits++) {
            shutByFour += laid.set(5, bits);
        }
        due("what is left over", laid.set(5, 0), ALL - shutByFour);
        for (int chance = 1; chance < 100; chance += 7) {
            RoadShut fine = Check.land("winter days 14 first " + chance + " snow 1 clear 0;valley shut 3 room 1 wants;"
                + "valley shut 1 room 1 wants;");
            for (int day = 1; day <= 14; day++) {
                due("no PART is lost", fine.set(day, 0) + fine.set(day, 1) + fine.set(day, 2) + fine.set(day, 3), ALL);
                due("nor by how many", fine.together(day, 0) + fine.together(day, 1) + fine.together(day, 2), ALL);
            }
        }
    }

    private static void promise11when() {
        RoadShut x = land();
        int[][] due = {{1, 1}, {250, 1}, {251, 2}, {425, 2}, {426, 3}, {557, 3}, {558, -1}, {1000, -1}, {0, -2}, {1001, -2}};
        for (int[] pair : due) {
            due("when(0, " + pair[0] + ")", x.when(0, pair[0]), pair[1]);
        }
        due("when(2, 1)", x.when(2, 1), -2);
        for (int far : FAR) {
            due("when far valley " + far, x.when(far, 1), -2);
            due("when far thousandths " + far, x.when(0, far), -2);
        }
    }

    private static void promise12wants() {
        RoadShut x = land();
        due("wants(0, 0, 0)", x.wants(0, 0, 0), 0);
        due("wants(0, 0, 1)", x.wants(0, 0, 1), 4);
        due("wants(0, 0, 2)", x.wants(0, 0, 2), 2);
        due("wants(0, 0, 3)", x.wants(0, 0, 3), 0);
        due("wants(1, 0, 1)", x.wants(1, 0, 1), 2);
        due("wants(0, 0, 4)", x.wants(0, 0, 4), -2);
        due("wants(0, 1, 1)", x.wants(0, 1, 1), -2);
        due("wants(2, 0, 1)", x.wants(2, 0, 1), -2);
        for (int far : FAR) {
            due("wants far valley " + far, x.wants(far, 0, 1), -2);
            due("wants far thing " + far, x.wants(0, far, 1), -2);
            due("wants far day " + far, x.wants(0, 0, far), -2);
        }
        RoadShut later = Check.land("winter days 60 first 1 snow 1 clear 1;valley shut 1 room 1 wants;thing price 1 harm 1 back 1;"
            + "valley shut 1 room 1 wants 9;");
        due("of a thing told later it wants none", later.wants(0, 0, 1), 0);
        due("wants(1, 0, 1)", later.wants(1, 0, 1), 531);
    }

    private static void promise13cost() {
        RoadShut x = land();
        long[] costs = {13500, 11825, 10150, 10400, 10650, 13650};
        for (int sacks = 0; sacks < costs.length; sacks++) {
            due("cost(0, 0, " + sacks + ")", x.cost(0, 0, sacks), costs[sacks]);
        }
        due("cost(0, 0, 999)", x.cost(0, 0, 999), 1000L * 2 * 999 + 1000L * 999 - 1350);
        due("cost(0, 0, 1000)", x.cost(0, 0, 1000), -2);
        due("cost(0, 1, 0)", x.cost(0, 1, 0), -2);
        due("cost(2, 0, 0)", x.cost(2, 0, 0), -2);
        for (int far : FAR) {
            due("cost far valley " + far, x.cost(far, 0, 1), -2);
            due("cost far thing " + far, x.cost(0, far, 1), -2);
            due("cost far sacks " + far, x.cost(0, 0, far), -2);
        }
        RoadShut most = Check.land("winter days 60 first 100 snow 100 clear 100;thing price 99 harm 999 back 99;"
            + "valley shut 100 room 999 wants 9;");
        due("the most that can lack", most.cost(0, 0, 0), 1000L * 999 * 531);
        due("the most that can lie there", most.cost(0, 0, 999), 1000L * (99 * 999 + 99 * (999 - 531)));
        RoadShut cut = Check.land("winter days 4 first 1 snow 1 clear 0;thing price 0 harm 1 back 0;valley shut 50 room 9 wants 1;");
        // 5e9 * 3 + 2.5e7 * 2 + 125000 PARTS of harm are 15.05 thousandths
        due("cut to thousandths", cut.cost(0, 0, 0), 15);
    }

    private static void promise14worth() {
        RoadShut x = land();
        long[] worth = {1675, 1675, -250, -250, -3000};
        for (int sacks = 0; sacks < worth.length; sacks++) {
            due("worth(0, 0, " + sacks + ")", x.worth(0, 0, sacks), worth[sacks]);
        }
        due("worth(0, 0, 998)", x.worth(0, 0, 998), -3000);
        due("worth(0, 0, 999)", x.worth(0, 0, 999), NOTHING);
        due("worth(0, 1, 0)", x.worth(0, 1, 0), NOTHING);
        for (int far : FAR) {
            due("worth far valley " + far, x.worth(far, 0, 1), NOTHING);
            due("worth far thing " + far, x.worth(0, far, 1), NOTHING);
            due("worth far sacks " + far, x.worth(0, 0, far), NOTHING);
        }
        RoadShut cut = Check.land("winter days 2 first 1 snow 1 clear 0;thing price 0 harm 1 back 1;valley shut 1 room 9 wants 1;");
        // 1e8 PARTS want one sack: 0.1 thousandths of harm, 999.9 of carrying back
        due("a difference below 0 is cut towards 0", cut.worth(0, 0, 0), -999);
        due("and not that of cut ones", cut.cost(0, 0, 0) - cut.cost(0, 0, 1), -999);
        RoadShut whole = Check.land("winter days 3 first 1 snow 100 clear 0;thing price 0 harm 7 back 0;valley shut 7 room 9 wants 1;");
        // PARTS of DAY 1 and 2: 7e8 and 6.51e8; LOSS 14.357 of none, 4.9 of one thousandths: 9.457 less, not 14 - 4
        due("whole difference", whole.worth(0, 0, 0), 9);
        due("of 14", whole.cost(0, 0, 0), 14);
        due("and 4", whole.cost(0, 0, 1), 4);
    }

    private static void promise15best() {
        RoadShut x = land();
        due("best(0, 0)", x.best(0, 0), 2);
        due("best(0, 1)", x.best(0, 1), -2);
        due("best(2, 0)", x.best(2, 0), -2);
        for (int far : FAR) {
            due("best far valley " + far, x.best(far, 0), -2);
            due("best far thing " + far, x.best(0, far), -2);
        }
        RoadShut even = Check.land("winter days 2 first 50 snow 0 clear 0;thing price 5 harm 10 back 0;valley shut 100 room 9 wants 4;");
        due("the least of several", even.best(0, 0), 0);
        RoadShut free = Check.land("winter days 3 first 1 snow 1 clear 0;thing price 0 harm 1 back 0;valley shut 1 room 9 wants 9;");
        due("uncut: one sack more still saves a little", free.best(0, 0), 18);
    }

    private static void promise16and17sure() {
        RoadShut x = land();
        due("sure(0, 0, 0)", x.sure(0, 0, 0), 575 * BILLION);
        due("sure(0, 0, 1)", x.sure(0, 0, 1), 575 * BILLION);
        due("sure(0, 0, 2)", x.sure(0, 0, 2), 750 * BILLION);
        due("sure(0, 0, 3)", x.sure(0, 0, 3), 750 * BILLION);
        due("sure(0, 0, 4)", x.sure(0, 0, 4), ALL);
        due("sure(0, 0, 999)", x.sure(0, 0, 999), ALL);
        due("sure(0, 0, 1000)", x.sure(0, 0, 1000), -2);
        int[][] needs = {{1000, 0}, {425, 0}, {424, 2}, {250, 2}, {249, 4}, {0, 4}, {-1, -2}, {1001, -2}};
        for (int[] need : needs) {
            due("need(0, 0, " + need[0] + ")", x.need(0, 0, need[0]), need[1]);
        }
        for (int far : FAR) {
            due("sure far valley " + far, x.sure(far, 0, 1), -2);
            due("sure far thing " + far, x.sure(0, far, 1), -2);
            due("sure far sacks " + far, x.sure(0, 0, far), -2);
            due("need far valley " + far, x.need(far, 0, 1), -2);
            due("need far thing " + far, x.need(0, far, 1), -2);
            due("need far n " + far, x.need(0, 0, far), -2);
        }
    }

    private static void promise18to20room() {
        RoadShut x = land();
        due("packed(0): one sack has room", x.packed(0), 11825);
        due("pack(0, 0)", x.pack(0, 0), 1);
        due("gap(0)", x.gap(0), 1675);
        due("gap(1): room enough", x.gap(1), 0);
        due("pack(1, 0)", x.pack(1, 0), x.best(1, 0));
        due("packed(1)", x.packed(1), x.cost(1, 0, x.best(1, 0)));
        due("packed(2)", x.packed(2), -2);
        due("pack(0, 1)", x.pack(0, 1), -2);
        due("gap(2)", x.gap(2), -2);
        for (int far : FAR) {
            due("packed far " + far, x.packed(far), -2);
            due("gap far " + far, x.gap(far), -2);
            due("pack far valley " + far, x.pack(far, 0), -2);
            due("pack far thing " + far, x.pack(0, far), -2);
        }
        RoadShut like = Check.land("winter days 2 first 100 snow 0 clear 0;thing price 1 harm 9 back 0;thing price 1 harm 9 back 0;"
            + "thing price 1 harm 9 back 0;valley shut 100 room 5 wants 3 3 3;valley shut 100 room 8 wants 3 3 3;"
            + "valley shut 100 room 0 wants 3 3 3;");
        int[][] sacks = {{0, 2, 3}, {2, 3, 3}, {0, 0, 0}};
        for (int valley = 0; valley < 3; valley++) {
            for (int thing = 0; thing < 3; thing++) {
                due("of several the least: pack(" + valley + ", " + thing + ")", like.pack(valley, thing), sacks[valley][thing]);
            }
        }
        due("packed of like ones", like.packed(0), 1000 * (5 + 4 * 9));
        due("gap of like ones", like.gap(0), 1000 * 4 * 8);
        due("packed without room", like.packed(2), 81000);
        due("gap without room", like.gap(2), 72000);
    }

    private static final String SURE_SHUT = "winter days 2 first 100 snow 100 clear 0;thing price 1 harm 10 back 2;"
        + "valley shut 100 room 9 wants 3;valley shut 0 room 9 wants 9;";

    private static void promise21to24lorries() {
        RoadShut x = Check.land(SURE_SHUT + "lorry many 2 carry 2 cost 1;");
        due("late(0, 0): two lorries, one sack back", x.late(0, 0), 8000);
        due("late(1, 0): the road never shuts", x.late(1, 0), 0);
        int[] sent = {2, 1, 1, 0, 0};
        for (int sacks = 0; sacks < sent.length; sacks++) {
            due("today by " + sacks, x.today(0, 0, 1, false, sacks), sent[sacks]);
            due("today behind snow by " + sacks, x.today(0, 0, 1, true, sacks), sent[sacks]);
            due("on the last day by " + sacks, x.today(0, 0, 2, true, sacks), 0);
        }
        due("today by 600", x.today(0, 0, 1, false, 600), 0);
        due("today by 601", x.today(0, 0, 1, false, 601), -2);
        due("today on day 0", x.today(0, 0, 0, false, 0), -2);
        due("today on day 3", x.today(0, 0, 3, false, 0), -2);
        due("last(0, 0)", x.last(0, 0), 1);
        due("last(1, 0)", x.last(1, 0), -1);
        due("signs(0, 0): three sacks may be laid, lorries bring four", x.signs(0, 0), 5000 - 8000);
        due("signs(1, 0)", x.signs(1, 0), 0);
        RoadShut one = Check.land(SURE_SHUT + "lorry many 9 carry 1 cost 4;");
        due("each sack has its lorry", one.signs(0, 0), 0);
        due("and its fare", one.late(0, 0), 3 * 5000);
        for (int far : FAR) {
            due("late far valley " + far, x.late(far, 0), -2);
            due("late far thing " + far, x.late(0, far), -2);
            due("today far valley " + far, x.today(far, 0, 1, true, 0), -2);
            due("today far thing " + far, x.today(0, far, 1, true, 0), -2);
            due("today far day " + far, x.today(0, 0, far, true, 0), -2);
            due("today far sacks " + far, x.today(0, 0, 1, true, far), -2);
            due("last far valley " + far, x.last(far, 0), -2);
            due("last far thing " + far, x.last(0, far), -2);
            due("signs far valley " + far, x.signs(far, 0), NOTHING);
            due("signs far thing " + far, x.signs(0, far), NOTHING);
        }
    }

    private static void lorriesAtTheirEdges() {
        RoadShut none = Check.land(SURE_SHUT);
        due("without a word one lorry carries 10 at no cost", none.late(0, 0), 1000 * (10 + 2 * 7));
        due("and is sent", none.today(0, 0, 1, false, 0), 1);
        // a clear winter's morrow has no snow: the lorry of DAY 2 can wait for nothing, that of DAY 1 meets first
        RoadShut first = Check.land("winter days 3 first 0 snow 0 clear 100;thing price 1 harm 10 back 0;"
            + "valley shut 100 room 9 wants 4;lorry many 1 carry 4 cost 0;");
        due("on DAY 1 it is by first, whatever lay ahead", first.today(0, 0, 1, false, 0), 0);
        due("on DAY 1 behind snow too", first.today(0, 0, 1, true, 0), 0);
        due("on DAY 2 behind a clear one", first.today(0, 0, 2, false, 0), 1);
        due("on DAY 2 behind snow", first.today(0, 0, 2, true, 0), 0);
        due("late", first.late(0, 0), 4000);
        due("last", first.last(0, 0), 2);
        // 59 DAYS by 9: 531 are wanted, 600 lie there at most
        RoadShut full = Check.land("winter days 60 first 100 snow 100 clear 100;thing price 0 harm 999 back 0;"
            + "valley shut 100 room 9 wants 9;lorry many 9 carry 50 cost 0;");
        due("of several the fewest", full.today(0, 0, 1, true, 131), 8);
        due("no more than 600 may lie there", full.today(0, 0, 1, true, 0), 9);
        due("451 and three are 601", full.today(0, 0, 1, true, 451), 2);
        due("530 and one are 580", full.today(0, 0, 1, true, 530), 1);
        due("531 are enough", full.today(0, 0, 1, true, 531), 0);
        RoadShut brim = Check.land("winter days 60 first 100 snow 100 clear 100;thing price 0 harm 999 back 0;"
            + "valley shut 100 room 9 wants 9;lorry many 9 carry 37 cost 0;");
        due("37 to 527 are 564", brim.today(0, 0, 1, true, 527), 1);
        // of snow: (33 times 10,000 and 67 times 0) by 100; all: (33 times 3,300 ..) by 100, cut
        RoadShut cut = Check.land("winter days 2 first 33 snow 0 clear 0;thing price 99 harm 1 back 0;valley shut 33 room 9 wants 1;");
        due("cut twice: 330, then 108.9", cut.late(0, 0), 108);
    }

    private static void promise25to27fork() {
        RoadShut x = land();
        due("fork of none is LOSS of both", x.fork(0, 1, 0, 0), 16380);
        due("fork of 6", x.fork(0, 1, 0, 6), 21276);
        due("fork of 999", x.fork(0, 1, 0, 999), 999 * 3000 - 1638 + 3 * 1638);
        due("fork(1, 0, 0, 0)", x.fork(1, 0, 0, 0), 16380);
        due("one twice", x.fork(0, 0, 0, 1), -2);
        due("middle of one twice", x.middle(1, 1, 0), -2);
        due("shares of one twice", x.shares(1, 1, 0), NOTHING);
        due("thing 1", x.fork(0, 1, 1, 1), -2);
        due("1000 sacks", x.fork(0, 1, 0, 1000), -2);
        for (int far : FAR) {
            due("fork far one " + far, x.fork(far, 1, 0, 1), -2);
            due("fork far other " + far, x.fork(0, far, 0, 1), -2);
            due("fork far thing " + far, x.fork(0, 1, far, 1), -2);
            due("fork far sacks " + far, x.fork(0, 1, 0, far), -2);
            due("middle far one " + far, x.middle(far, 1, 0), -2);
            due("middle far other " + far, x.middle(0, far, 0), -2);
            due("middle far thing " + far, x.middle(0, 1, far), -2);
            due("shares far one " + far, x.shares(far, 1, 0), NOTHING);
            due("shares far other " + far, x.shares(0, far, 0), NOTHING);
            due("shares far thing " + far, x.shares(0, 1, far), NOTHING);
        }
        // either road shuts by half, and not on one DAY with the other: by a quarter both on DAY 1 want 2
        RoadShut two = Check.land("winter days 2 first 100 snow 0 clear 0;thing price 3 harm 10 back 0;valley shut 50 room 9 wants 1;"
            + "valley shut 50 room 9 wants 1;mule 1;");
        // 0: 10; 1: 3 + 2.5 + 0.75; 2: 6 + 1
        due("fork of 0", two.fork(0, 1, 0, 0), 10000);
        due("fork of 1", two.fork(0, 1, 0, 1), 6250);
        due("fork of 2", two.fork(0, 1, 0, 2), 7000);
        due("middle", two.middle(0, 1, 0), 1);
        due("shares: each by itself costs 3", two.shares(0, 1, 0), 6000 - 6250);
        RoadShut most = Check.land("winter days 60 first 100 snow 0 clear 0;thing price 99 harm 999 back 0;valley shut 100 room 9 wants 9;"
            + "valley shut 100 room 9 wants 9;mule 99;");
        due("the most that two want", most.fork(0, 1, 0, 0), 1000L * 999 * 1062);
        due("more than can be laid", most.fork(0, 1, 0, 999), 1000L * (99 * 999 + 99 * 999 + 999 * 63));
        due("so all that can", most.middle(0, 1, 0), 999);
        due("against 531 each", most.shares(0, 1, 0), 1000L * (99 * 1062) - 1000L * (99 * 999 + 99 * 999 + 999 * 63));
        // a mule that costs more than harm: nothing is laid there, though the far end would be as good
        RoadShut dear = Check.land("winter days 2 first 100 snow 0 clear 0;thing price 0 harm 1 back 0;valley shut 100 room 9 wants 2;"
            + "valley shut 100 room 9 wants 2;mule 2;");
        due("dear mule", dear.fork(0, 1, 0, 4), 8000);
        due("dear mule's middle", dear.middle(0, 1, 0), 0);
    }

    private static void promise28to30planes() {
        RoadShut x = land();
        long[] flown = {10125, 10575, 8900, 10400, 10650};
        for (int sacks = 0; sacks < flown.length; sacks++) {
            due("flown(0, 0, " + sacks + ")", x.flown(0, 0, sacks), flown[sacks]);
        }
        due("plane(0, 0)", x.plane(0, 0), 2);
        due("edge(0): 15 is below harm of two", x.edge(0), 2);
        due("edge(1)", x.edge(1), -2);
        due("flown 1000", x.flown(0, 0, 1000), -2);
        due("flown thing 1", x.flown(0, 1, 0), -2);
        for (int far : FAR) {
            due("flown far valley " + far, x.flown(far, 0, 1), -2);
            due("flown far thing " + far, x.flown(0, far, 1), -2);
            due("flown far sacks " + far, x.flown(0, 0, far), -2);
            due("plane far valley " + far, x.plane(far, 0), -2);
            due("plane far thing " + far, x.plane(0, far), -2);
            due("edge far " + far, x.edge(far), -2);
        }
        String start = "winter days 2 first 100 snow 0 clear 0;thing price 1 harm 10 back 0;thing price 1 harm 0 back 0;"
            + "valley shut 100 room 9 wants 7 7;";
        RoadShut none = Check.land(start);
        due("no plane flies", none.edge(0), -1);
        due("as without", none.flown(0, 0, 3), none.cost(0, 0, 3));
        due("best as without", none.plane(0, 0), 7);
        RoadShut exact = Check.land(start + "plane carry 3 cost 30;");
        due("harm of a load is not above its cost", exact.edge(0), -1);
        RoadShut above = Check.land(start + "plane carry 3 cost 29;");
        due("a whole load is above it", above.edge(0), 3);
        due("seven lack: two loads, one left over", above.flown(0, 0, 0), 1000 * (29 + 29 + 10));
        due("no harm, no plane", above.edge(1), -1);
        RoadShut small = Check.land(start + "plane carry 1 cost 9;");
        due("a plane for one sack", small.edge(0), 1);
        due("seven planes", small.flown(0, 0, 0), 63000);
        RoadShut free = Check.land(start + "plane carry 50 cost 0;");
        due("a free plane flies for one", free.edge(0), 1);
        due("and all is flown", free.flown(0, 0, 0), 0);
        due("so nothing is laid", free.plane(0, 0), 0);
    }

    private static void promise31and32paths() {
        RoadShut x = land();
        due("path(0, 1, 0, 0)", x.path(0, 1, 0, 0), 6940);
        due("path(1, 0, 0, 0)", x.path(1, 0, 0, 0), 2060);
        due("fed(0, 1): 0.328 days", x.fed(0, 1), 32);
        due("fed(1, 0): 0.082 days", x.fed(1, 0), 8);
        due("one twice", x.path(0, 0, 0, 0), -2);
        due("fed by itself", x.fed(0, 0), -2);
        due("path of 1000", x.path(0, 1, 0, 1000), -2);
        due("path thing 1", x.path(0, 1, 1, 0), -2);
        for (int far : FAR) {
            due("path far valley " + far, x.path(far, 1, 0, 1), -2);
            due("path far from " + far, x.path(0, far, 0, 1), -2);
            due("path far thing " + far, x.path(0, 1, far, 1), -2);
            due("path far sacks " + far, x.path(0, 1, 0, far), -2);
            due("fed far valley " + far, x.fed(far, 1), -2);
            due("fed far from " + far, x.fed(0, far), -2);
        }
        RoadShut three = Check.land(LAND + "valley shut 0 room 9 wants 1;path 2 0 days 30;");
        due("without a PATH as cost()", three.path(1, 2, 0, 1), three.cost(1, 0, 1));
        due("fed without", three.fed(1, 2), 0);
        due("from one that never shuts all DAYS are fed", three.path(0, 2, 0, 0), 0);
        due("2 DAYS by 0.25, 1 by 0.175", three.fed(0, 2), 67);
        due("the PATH goes either way", three.fed(2, 0), 0);
        RoadShut same = Check.land("winter days 9 first 100 snow 0 clear 0;thing price 0 harm 1 back 0;valley shut 100 room 9 wants 1;"
            + "valley shut 100 room 9 wants 1;path 1 0 days 30;");
        due("shut on one DAY: not fed", same.fed(0, 1), 0);
        due("and eats its own", same.path(0, 1, 0, 0), 8000);
    }

    private static void promise33given() {
        RoadShut x = land();
        due("nothing there", x.given(0, 0, 5, 0), -6);
        Check.row(x, 0, 1, 3, 6);
        int[][] due = {{0, 10, 3, 6}, {0, 5, 1, 3}, {0, 0, 0, 0}, {0, 99999, 33333, 66666}, {1, 5, 2, 2}, {1, 6, 3, 3}, {1, 8, 3, 5},
            {1, 9, 3, 6}, {1, 99999, 3, 6}, {1, 1, 0, 0}, {1, 0, 0, 0}};
        for (int[] d : due) {
            due("given rule " + d[0] + " of " + d[1], x.given(0, d[0], d[1], 0), d[2]);
            due("given rule " + d[0] + " of " + d[1] + " to 1", x.given(0, d[0], d[1], 1), d[3]);
        }
        due("100000 sacks", x.given(0, 0, 100000, 0), -2);
        due("-1 sacks", x.given(0, 0, -1, 0), -2);
        due("rule 2", x.given(0, 2, 5, 0), -2);
        due("rule -1", x.given(0, -1, 5, 0), -2);
        due("valley 2", x.given(0, 0, 5, 2), -2);
        due("slot 4", x.given(4, 0, 5, 0), -2);
        due("slot 4 ahead of nothing", x.given(1, 0, 5, 2), -2);
        Check.row(x, 1, 0, 3);
        due("one number for two valleys", x.given(1, 0, 5, 0), -2);
        Check.row(x, 1, 1, 3, 4, 5);
        due("three numbers", x.given(1, 0, 5, 0), -2);
        Check.row(x, 1, 1, 3, 1000);
        due("1000 asked", x.given(1, 0, 5, 0), -2);
        Check.row(x, 1, 1, -1, 5);
        due("-1 asked", x.given(1, 0, 5, 0), -2);
        Check.row(x, 1, 3, 0, 0);
        due("nothing asked by parts", x.given(1, 0, 5, 0), 0);
        due("nothing asked by a level", x.given(1, 1, 5, 0), 0);
        Check.row(x, 1, 1, 999, 999);
        due("999 asked", x.given(1, 1, 1997, 0), 998);
        for (int far : FAR) {
            due("given far slot " + far, x.given(far, 0, 5, 0), -2);
            due("given far rule " + far, x.given(0, far, 5, 0), -2);
            due("given far sacks " + far, x.given(0, 0, far, 0), -2);
            due("given far valley " + far, x.given(0, 0, 5, far), -2);
        }
    }

    private static void promise34and35asks() {
        RoadShut x = land();
        due("nothing there", x.asks(0, 0, 5, 0, 0), -6);
        due("nothing there, pays", x.pays(0, 0, 5, 0, 0), -6);
        Check.row(x, 0, 1, 3, 6);
        due("by a level it need not ask more than it is given", x.asks(0, 1, 5, 0, 0), 2);
        due("nor does it gain", x.pays(0, 1, 5, 0, 0), 0);
        due("by parts 24 of 30 give 4 of 5", x.asks(0, 0, 5, 0, 0), 24);
        due("which pays", x.pays(0, 0, 5, 0, 0), 9250);
        due("much is there: two by two parts", x.asks(0, 0, 99999, 0, 0), 1);
        due("nothing is there: ask nothing", x.asks(0, 0, 0, 0, 0), 0);
        due("nothing to gain", x.pays(0, 0, 0, 0, 0), 0);
        due("thing 1", x.asks(0, 0, 5, 0, 1), -2);
        due("thing 1 pays", x.pays(0, 0, 5, 0, 1), -2);
        due("thing 1 ahead of nothing", x.asks(1, 0, 5, 0, 1), -2);
        Check.row(x, 1, 1, 3, 1000);
        due("1000 asked", x.asks(1, 0, 5, 0, 0), -2);
        due("1000 asked, pays", x.pays(1, 0, 5, 0, 0), -2);
        for (int far : FAR) {
            due("asks far slot " + far, x.asks(far, 0, 5, 0, 0), -2);
            due("asks far rule " + far, x.asks(0, far, 5, 0, 0), -2);
            due("asks far sacks " + far, x.asks(0, 0, far, 0, 0), -2);
            due("asks far valley " + far, x.asks(0, 0, 5, far, 0), -2);
            due("asks far thing " + far, x.asks(0, 0, 5, 0, far), -2);
            due("pays far slot " + far, x.pays(far, 0, 5, 0, 0), -2);
            due("pays far rule " + far, x.pays(0, far, 5, 0, 0), -2);
            due("pays far sacks " + far, x.pays(0, 0, far, 0, 0), -2);
            due("pays far valley " + far, x.pays(0, 0, 5, far, 0), -2);
            due("pays far thing " + far, x.pays(0, 0, 5, 0, far), -2);
        }
        due("the row stays as it was", x.given(0, 0, 10, 0), 3);
    }

    private static void promise36to38fires() {
        RoadShut x = land();
        due("burnt by 50", x.burnt(0, 0, 2, 50), 13825);
        due("burnt by 0", x.burnt(0, 0, 2, 0), 10150);
        due("burnt by 100", x.burnt(0, 0, 2, 100), 17500);
        due("spread by 50", x.spread(0, 0, 2, 50), 13825);
        due("spread by 0", x.spread(0, 0, 2, 0), 10150);
        due("spread by 100", x.spread(0, 0, 2, 100), 17500);
        // three: one in the first (11825 + 4000), two in the second (10150 + 2000), none 6000 + 13500, both 10400
        due("spread of 3 by 10", x.spread(0, 0, 3, 10), (8100 * 10400 + 900 * 15825 + 900 * 12150 + 100 * 19500) / 10000);
        due("burnt, cut", x.burnt(0, 0, 1, 33), (67 * 11825 + 33 * 15500) / 100);
        due("bear by 0", x.bear(0, 0, 0), 2);
        due("bear by 100", x.bear(0, 0, 100), 0);
        due("burnt 101", x.burnt(0, 0, 1, 101), -2);
        due("spread 101", x.spread(0, 0, 1, 101), -2);
        due("bear 101", x.bear(0, 0, 101), -2);
        for (int wants = 0; wants <= 5; wants++) {
            RoadShut sure = Check.land("winter days 2 first 100 snow 0 clear 0;thing price 1 harm 10 back 0;valley shut 100 room 9 wants "
                + wants + ";");
            due("what is wanted for sure is best", sure.bear(0, 0, 0), wants);
            due("and is so by one store", sure.best(0, 0), wants);
            // both stand by 0.81, one by 0.09 each, none by 0.01: the half is all that either then has
            due("two stores hold it, each by 9 in 10", sure.spread(0, 0, 2 * wants, 10), 1000 * 2 * wants + 100 * wants);
        }
        due("burnt 1000 sacks", x.burnt(0, 0, 1000, 1), -2);
        due("spread 1000 sacks", x.spread(0, 0, 1000, 1), -2);
        for (int far : FAR) {
            due("burnt far valley " + far, x.burnt(far, 0, 1, 1), -2);
            due("burnt far thing " + far, x.burnt(0, far, 1, 1), -2);
            due("burnt far sacks " + far, x.burnt(0, 0, far, 1), -2);
            due("burnt far n " + far, x.burnt(0, 0, 1, far), -2);
            due("spread far valley " + far, x.spread(far, 0, 1, 1), -2);
            due("spread far thing " + far, x.spread(0, far, 1, 1), -2);
            due("spread far sacks " + far, x.spread(0, 0, far, 1), -2);
            due("spread far n " + far, x.spread(0, 0, 1, far), -2);
            due("bear far valley " + far, x.bear(far, 0, 1), -2);
            due("bear far thing " + far, x.bear(0, far, 1), -2);
            due("bear far n " + far, x.bear(0, 0, far), -2);
        }
    }

    /** From seed 1 the draws are 38, 58, 13, 15, 51, 27, 10, 19. */
    private static void promise39run() {
        RoadShut x = land();
        due("run(1)", x.run(1), 2);
        due("shut(0)", x.shut(0), 3);
        due("shut(1)", x.shut(1), 1);
        due("run(-1)", x.run(-1), -2);
        due("run(2000000001)", x.run(2000000001), -2);
        due("run(max)", x.run(Integer.MAX_VALUE), -2);
        due("the YEAR stays", x.shut(0), 3);
        CHECK.holds("run(0)", x.run(0) >= 0);
        CHECK.holds("run(2000000000)", x.run(2000000000) >= 0);
        RoadShut clear = Check.land("winter days 60 first 0 snow 0 clear 0;valley shut 100 room 1 wants;");
        due("no snow", clear.run(7), 0);
        due("no road shut", clear.shut(0), 0);
        RoadShut deep = Check.land("winter days 1 first 100 snow 0 clear 0;valley shut 100 room 1 wants;valley shut 0 room 1 wants;");
        due("one of two", deep.run(7), 1);
        due("the first", deep.shut(0), 1);
        due("not the second", deep.shut(1), 0);
        RoadShut none = Check.land("winter days 3 first 50 snow 50 clear 50;");
        due("no roads", none.run(5), 0);
        due("but a YEAR", none.count(6), 1);
    }

    private static void promise40told() {
        RoadShut x = land();
        due("nothing told", x.told(0), -6);
        due("slot 4", x.told(4), -2);
        due("slot -1", x.told(-1), -2);
        Check.row(x, 0, 0, 0, 2, 3);
        due("told", x.told(0), 2);
        due("shut(0)", x.shut(0), 3);
        due("shut(1), nothing happens later", x.shut(1), 2);
        Check.row(x, 0, 2, 1);
        due("none behind its end", x.told(0), 1);
        due("shut(0) then", x.shut(0), 1);
        due("shut(1) then", x.shut(1), 0);
        Check.row(x, 0, 3, 4);
        due("a third valley", x.told(0), -2);
        Check.row(x, 0, 0, 0, -1);
        due("below 0", x.told(0), -2);
        Check.row(x, 0, 3, 1L << 40);
        due("far bits", x.told(0), -2);
        Check.row(x, 0, 0, 0, 0, 0, 0);
        due("longer than the winter", x.told(0), -2);
        due("the YEAR stays", x.shut(0), 1);
        Check.row(x, 0, 0);
        due("an empty row", x.told(0), 0);
        due("no road shut", x.shut(0), 0);
        due("a YEAR", x.count(6), 1);
    }

    private static void promise41and42year() {
        RoadShut x = land();
        due("no YEAR", x.shut(0), -1);
        due("no YEAR, lacks", x.lacks(0, 0, 0, 0), -1);
        due("valley 2 without YEAR", x.shut(2), -2);
        due("what 3 without YEAR", x.lacks(0, 0, 0, 3), -2);
        x.run(1);
        due("valley 2", x.shut(2), -2);
        due("lacking 2", x.lacks(1, 0, 0, 0), 2);
        due("lacking 1", x.lacks(1, 0, 1, 0), 1);
        due("lacking 0", x.lacks(1, 0, 5, 0), 0);
        due("left over 3", x.lacks(1, 0, 5, 1), 3);
        due("left over 0", x.lacks(1, 0, 1, 1), 0);
        due("first day of none", x.lacks(1, 0, 0, 2), 2);
        due("first day of one", x.lacks(1, 0, 1, 2), 3);
        due("first day of two", x.lacks(1, 0, 2, 2), 0);
        due("shut on the last day", x.lacks(0, 0, 7, 1), 7);
        due("lacks nothing then", x.lacks(0, 0, 0, 0), 0);
        due("on no day", x.lacks(0, 0, 0, 2), 0);
        due("what 3", x.lacks(0, 0, 0, 3), -2);
        due("what -1", x.lacks(0, 0, 0, -1), -2);
        due("1000 sacks", x.lacks(0, 0, 1000, 0), -2);
        Check.row(x, 0, 0, 1);
        x.told(0);
        due("one of two that are wanted lacks on DAY 3", x.lacks(0, 0, 3, 2), 3);
        due("three of four", x.lacks(0, 0, 3, 0), 1);
        due("one of two lacks on DAY 2", x.lacks(0, 0, 1, 2), 2);
        due("never shut", x.lacks(1, 0, 3, 1), 3);
        for (int far : FAR) {
            due("shut far " + far, x.shut(far), -2);
            due("lacks far valley " + far, x.lacks(far, 0, 0, 0), -2);
            due("lacks far thing " + far, x.lacks(0, far, 0, 0), -2);
            due("lacks far sacks " + far, x.lacks(0, 0, far, 0), -2);
            due("lacks far what " + far, x.lacks(0, 0, 0, far), -2);
        }
    }

    private static void promise43and44lorriesSent() {
        RoadShut x = land();
        due("no YEAR", x.judge(0, 0), -1);
        due("no YEAR paid", x.paid(0, 0, 0), NOTHING);
        due("valley 2 without YEAR", x.judge(0, 2), -2);
        x.run(1);
        due("no row", x.judge(0, 1), -6);
        due("no row paid", x.paid(0, 1, 0), NOTHING);
        judged(x, 0, 12000, 2);
        judged(x, 2, NOTHING, 1, 1);
        judged(x, 0, 20000);
        judged(x, 0, 20000, 0, 0, 0);
        judged(x, 1, NOTHING, 3);
        judged(x, 1, NOTHING, -1);
        judged(x, 3, NOTHING, 2, 0, 1);
        judged(x, -2, NOTHING, 0, 0, 0, 0);
        Check.row(x, 0, 0, 1, 1, 1);
        due("shut on DAY 3, open that morning", x.judge(0, 0), 0);
        due("three lorries of two, none eaten", x.paid(0, 0, 0), 1000 * (3 * 5 + 6));
        due("slot 4", x.judge(4, 0), -2);
        due("slot -1", x.judge(-1, 0), -2);
        due("slot 4 paid", x.paid(4, 0, 0), NOTHING);
        due("thing 1 paid", x.paid(0, 0, 1), NOTHING);
        for (int far : FAR) {
            due("judge far slot " + far, x.judge(far, 0), -2);
            due("judge far valley " + far, x.judge(0, far), -2);
            due("paid far slot " + far, x.paid(far, 0, 0), NOTHING);
            due("paid far valley " + far, x.paid(0, far, 0), NOTHING);
            due("paid far thing " + far, x.paid(0, 0, far), NOTHING);
        }
    }

    private static void judged(RoadShut x, int judge, long paid, long... lorries) {
        Check.row(x, 0, 0, lorries);
        String of = java.util.Arrays.toString(lorries);
        due("judge " + of, x.judge(0, 1), judge);
        due("paid " + of, x.paid(0, 1, 0), paid);
    }

    private static void promise45years() {
        RoadShut x = land();
        int shut = 0;
        int lacking = 0;
        int most = 0;
        int left = 0;
        for (int seed = 40; seed < 140; seed++) {
            x.run(seed);
            shut += x.shut(0) > 0 ? 1 : 0;
            lacking += x.lacks(0, 0, 1, 0);
            most = Math.max(most, x.lacks(0, 0, 1, 0));
            left += x.lacks(0, 0, 1, 1);
        }
        x.run(1);
        due("years 0", x.years(40, 100, 0, 0, 1, 0), shut);
        due("years 1", x.years(40, 100, 0, 0, 1, 1), lacking);
        due("years 2", x.years(40, 100, 0, 0, 1, 2), most);
        due("years 3", x.years(40, 100, 0, 0, 1, 3), left);
        due("the YEAR stays", x.shut(0), 3);
        due("one year", x.years(1, 1, 1, 0, 0, 1), 2);
        CHECK.holds("the last seed", x.years(2000000000, 100, 0, 0, 0, 0) >= 0);
        due("n 0", x.years(1, 0, 0, 0, 0, 0), -2);
        due("n 101", x.years(1, 101, 0, 0, 0, 0), -2);
        due("what 4", x.years(1, 1, 0, 0, 0, 4), -2);
        due("seed beyond", x.years(2000000001, 1, 0, 0, 0, 0), -2);
        due("1000 sacks", x.years(1, 1, 0, 0, 1000, 0), -2);
        for (int far : FAR) {
            due("years far n " + far, x.years(1, far, 0, 0, 0, 0), -2);
            due("years far valley " + far, x.years(1, 1, far, 0, 0, 0), -2);
            due("years far thing " + far, x.years(1, 1, 0, far, 0, 0), -2);
            due("years far sacks " + far, x.years(1, 1, 0, 0, far, 0), -2);
            due("years far what " + far, x.years(1, 1, 0, 0, 0, far), -2);
        }
        due("years seed -1", x.years(-1, 1, 0, 0, 0, 0), -2);
        RoadShut fresh = land();
        fresh.years(1, 9, 0, 0, 0, 0);
        due("no YEAR by years()", fresh.count(6), 0);
    }

    private static void promise46count() {
        RoadShut x = land();
        int[] due = {2, 1, 3, 8, 1, 0, 0, 0};
        for (int what = 0; what < 8; what++) {
            due("count(" + what + ")", x.count(what), due[what]);
        }
        x.row(0, 0, 0);
        x.row(3, 3, 60);
        x.row(3, 1, 2);
        x.feed(0, 0, 0, 0, 0);
        x.run(1);
        due("bytes", x.count(5), 20);
        due("YEAR", x.count(6), 1);
        due("SLOTS", x.count(7), 2);
        for (int far : FAR) {
            due("count far " + far, x.count(far), -1);
        }
        due("count(8)", x.count(8), -1);
    }

    private static void promise47and48images() {
        RoadShut x = new RoadShut();
        due("back of nothing", x.back(0), -6);
        due("back(3)", x.back(3), -2);
        due("back(-1)", x.back(-1), -2);
        due("keep(3)", x.keep(3), -2);
        due("keep(-1)", x.keep(-1), -2);
        due("keep without LAND", x.keep(2), 0);
        Check.tell(x, LAND);
        x.run(1);
        due("keep(0)", x.keep(0), 0);
        due("tell another", Check.tell(x, "winter days 9 first 0 snow 0 clear 0;"), 1);
        due("keep(1) without YEAR", x.keep(1), 0);
        x.row(1, 0, 3);
        Check.tape(x, "winter days x");
        due("a fault", x.land(), -4);
        due("back(0)", x.back(0), 0);
        due("DAYS", x.count(2), 3);
        due("YEAR", x.count(6), 1);
        due("shut(0)", x.shut(0), 3);
        due("TAPE stays", x.count(5), 13);
        due("SLOTS stay", x.count(7), 1);
        due("fault stays", x.fault(0), 1);
        x.run(4);
        x.end(0);
        due("back(0) again", x.back(0), 0);
        due("YEAR as it was kept", x.shut(0), 3);
        due("back(1)", x.back(1), 0);
        due("DAYS of 1", x.count(2), 9);
        due("no YEAR of 1", x.count(6), 0);
        due("back(2)", x.back(2), 0);
        due("no LAND of 2", x.count(3), 0);
        due("run without", x.run(1), -2);
        due("back(0) at last", x.back(0), 0);
        due("cost there", x.cost(0, 0, 2), 10150);
        due("keep over another", x.keep(1), 0);
        x.land();
        due("back(1) at last", x.back(1), 0);
        due("DAYS of 1 at last", x.count(2), 3);
        for (int far : FAR) {
            due("keep far " + far, x.keep(far), -2);
            due("back far " + far, x.back(far), -2);
        }
    }

    private static void promise49and50rows() {
        RoadShut x = land();
        due("write to nothing", x.write(0, 0, 1), -6);
        due("row(0, 0, 2)", x.row(0, 0, 2), 0);
        due("row(0, 0, -1)", x.row(0, 0, -1), -3);
        due("row(0, 0, 61)", x.row(0, 0, 61), -2);
        due("row(0, 4, 2)", x.row(0, 4, 2), -2);
        due("row(0, -1, 2)", x.row(0, -1, 2), -2);
        due("row(4, 0, 2)", x.row(4, 0, 2), -2);
        due("row(-1, 0, 2)", x.row(-1, 0, 2), -2);
        due("no SLOT ahead of below 0", x.row(4, 0, -1), -2);
        due("no WIDTH ahead of below 0", x.row(1, 4, -1), -2);
        due("row(1, 0, -1)", x.row(1, 0, Integer.MIN_VALUE), -3);
        due("and it has nothing", x.write(1, 0, 1), -6);
        due("the row stays", x.write(0, 1, 1), 0);
        due("write beyond", x.write(0, 2, 1), -7);
        due("write below", x.write(0, -1, 1), -7);
        due("write slot 4", x.write(4, 0, 1), -2);
        due("write slot -1", x.write(-1, 0, 1), -2);
        due("an empty row", x.row(2, 2, 0), 0);
        due("has no number", x.write(2, 0, 1), -7);
        due("sixty", x.row(2, 2, 60), 0);
        due("number 59", x.write(2, 59, 1), 0);
        due("number 60", x.write(2, 60, 1), -7);
        // told() sees what was written: 256 is 0 in one byte, 65536 in two, 2 to the 32 in four
        long[] cut = {256, 65536, 1L << 32, 0};
        for (int width = 0; width < 4; width++) {
            x.row(3, width, 1);
            x.write(3, 0, cut[width] + 1);
            due("cut to WIDTH " + width, x.told(3), 1);
            if (width < 3) {
                x.row(3, width + 1, 1);
                x.write(3, 0, cut[width] + 1);
                due("not cut to WIDTH " + (width + 1), x.told(3), -2);
                x.row(3, width, 1);
                x.write(3, 0, cut[width] / 2);
                due("its highest bit is a sign", x.told(3), -2);
            }
        }
        x.row(3, 0, 2);
        x.write(3, 0, 3);
        x.row(3, 0, 2);
        due("a new row is all 0", x.told(3), 0);
    }

    private static void promise51paste() {
        RoadShut x = land();
        due("paste of nothing", x.paste(0, 0, 1, 0, 0), -6);
        Check.row(x, 0, 0, 1, 2, 3);
        due("paste to nothing", x.paste(0, 0, 1, 0, 0), -6);
        due("paste slot 4", x.paste(4, 0, 0, 0, 0), -2);
        due("paste to slot 4", x.paste(0, 0, 4, 0, 0), -2);
        due("paste slot -1", x.paste(-1, 0, 0, 0, 0), -2);
        due("paste to slot -1", x.paste(0, 0, -1, 0, 0), -2);
        Check.row(x, 1, 1, 0, 0, 0);
        due("unlike WIDTHS", x.paste(0, 0, 1, 0, 1), -8);
        due("unlike ahead of beyond", x.paste(0, 0, 1, 0, 99), -8);
        Check.row(x, 1, 0, 0, 0, 0);
        due("two of them", x.paste(0, 1, 1, 0, 2), 0);
        // 2, 3, 0: valley 1 on DAY 1, valley 0 on DAY 2
        due("told", x.told(1), 2);
        due("shut(0)", x.shut(0), 2);
        due("shut(1)", x.shut(1), 1);
        int[][] beyond = {{2, 0, 2}, {0, 2, 2}, {0, 0, 4}, {-1, 0, 1}, {0, -1, 1}, {0, 0, -1}, {4, 0, 0}, {0, 4, 0},
            {Integer.MAX_VALUE, 0, 1}, {0, Integer.MAX_VALUE, 1}, {0, 0, Integer.MAX_VALUE}, {1, 1, Integer.MAX_VALUE},
            {Integer.MIN_VALUE, 0, 1}, {0, 0, Integer.MIN_VALUE}};
        for (int[] b : beyond) {
            due("beyond " + b[0] + " " + b[1] + " " + b[2], x.paste(0, b[0], 1, b[1], b[2]), -7);
        }
        due("nothing at its end", x.paste(0, 3, 1, 3, 0), 0);
        due("nothing happened", x.told(1), 2);
        due("shut(0) still", x.shut(0), 2);
        Check.row(x, 2, 0, 1, 2, 0);
        due("within itself", x.paste(2, 0, 2, 1, 2), 0);
        // as they were: 1, 1, 2
        due("told of itself", x.told(2), 2);
        due("shut(0) of itself", x.shut(0), 1);
        due("shut(1) of itself", x.shut(1), 3);
        Check.row(x, 2, 0, 0, 1, 2);
        due("downwards", x.paste(2, 1, 2, 0, 2), 0);
        // 1, 2, 2
        x.told(2);
        due("shut(0) downwards", x.shut(0), 1);
        due("shut(1) downwards", x.shut(1), 2);
    }

    private static void withoutThings() {
        RoadShut x = Check.land("winter days 3 first 50 snow 50 clear 50;valley shut 50 room 4 wants;");
        due("packed without THINGS", x.packed(0), 0);
        due("gap without THINGS", x.gap(0), 0);
        due("pack(0, 0)", x.pack(0, 0), -2);
        due("cost(0, 0, 0)", x.cost(0, 0, 0), -2);
        due("edge(0)", x.edge(0), -2);
        RoadShut y = Check.land("winter days 3 first 50 snow 50 clear 50;thing price 1 harm 1 back 1;");
        due("without VALLEYS", y.cost(0, 0, 0), -2);
        due("edge without plane", y.edge(0), -1);
        due("years without VALLEYS", y.years(1, 1, 0, 0, 0, 0), -2);
        Check.row(y, 0, 0);
        due("given without VALLEYS", y.given(0, 0, 0, 0), -2);
    }

    private static void withoutLand() {
        RoadShut x = new RoadShut();
        x.row(0, 0, 0);
        long[] wrong = {x.shuts(0, 0), x.by(0, 1), x.both(0, 0, 1, 0), x.together(1, 0), x.set(1, 0), x.when(0, 1), x.wants(0, 0, 0),
            x.cost(0, 0, 0), x.best(0, 0), x.sure(0, 0, 0), x.need(0, 0, 0), x.packed(0), x.pack(0, 0), x.gap(0), x.late(0, 0),
            x.today(0, 0, 1, true, 0), x.last(0, 0), x.fork(0, 1, 0, 0), x.middle(0, 1, 0), x.flown(0, 0, 0), x.plane(0, 0), x.edge(0),
            x.path(0, 1, 0, 0), x.fed(0, 1), x.given(0, 0, 0, 0), x.asks(0, 0, 0, 0, 0), x.pays(0, 0, 0, 0, 0), x.burnt(0, 0, 0, 0),
            x.spread(0, 0, 0, 0), x.bear(0, 0, 0), x.run(0), x.told(0), x.shut(0), x.lacks(0, 0, 0, 0), x.judge(0, 0),
            x.years(0, 1, 0, 0, 0, 0)};
        for (int i = 0; i < wrong.length; i++) {
            due("without LAND, call " + i, wrong[i], -2);
        }
        due("worth", x.worth(0, 0, 0), NOTHING);
        due("signs", x.signs(0, 0), NOTHING);
        due("shares", x.shares(0, 1, 0), NOTHING);
        due("paid", x.paid(0, 0, 0), NOTHING);
    }
}
