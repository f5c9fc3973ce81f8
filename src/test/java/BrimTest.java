import java.math.BigInteger;

/**
 * Nothing and all: a LAND without LINES, THINGS or VALLEYS, a winter of one DAY, and the greatest numbers of all that the
 * document allows, by which nothing may run over; and the edges that terms II to XI name, worked out by hand.
 */
public final class BrimTest {
    private static final Check CHECK = new Check();
    private static final long NOTHING = -1000000000000L;
    private static final long ALL = 1000000000000L;
    private static final long BILLION = 1000000000L;

    public static void main(String[] args) {
        withoutLines(new RoadShut());
        withoutLines(Check.land(""));
        withoutLines(Check.land(" \n"));
        withoutValleys();
        withoutThings();
        oneDay();
        greatestRoads();
        greatestStores();
        greatestLorries();
        greatestForkAndPlanes();
        greatestShares();
        greatestFires();
        greatestYears();
        chancesAtTheirBounds();
        partsDownToOne();
        roomAtItsBounds();
        lacksAtItsBounds();
        planesAtTheirEdge();
        pathsAtTheirEdges();
        forkAtItsEdges();
        levelsAtTheirEdges();
        everyLevel();
        halvesOfStores();
        drawsAtTheirEdges();
        lastSeeds();
        lorriesAtTheirEdges();
        CHECK.finish();
    }

    private static void due(String call, long got, long want) {
        CHECK.due(call, got, want);
    }

    private static void withoutLines(RoadShut x) {
        for (int what = 0; what <= 7; what++) {
            due("count(" + what + ")", x.count(what), 0);
        }
        x.row(0, 0, 0);
        x.row(1, 3, 60);
        for (int slot = 0; slot < 2; slot++) {
            due("told(" + slot + ")", x.told(slot), -2);
            due("judge(" + slot + ")", x.judge(slot, 0), -2);
            due("given(" + slot + ")", x.given(slot, 0, 0, 0), -2);
            due("asks(" + slot + ")", x.asks(slot, 0, 0, 0, 0), -2);
            due("pays(" + slot + ")", x.pays(slot, 0, 0, 0, 0), -2);
            due("paid(" + slot + ")", x.paid(slot, 0, 0), NOTHING);
        }
        due("shuts(0, 0): no DAYS, no VALLEYS", x.shuts(0, 0), -2);
        due("together(0, 0)", x.together(0, 0), -2);
        due("together(1, 0)", x.together(1, 0), -2);
        due("set(0, 0)", x.set(0, 0), -2);
        due("set(1, 0)", x.set(1, 0), -2);
        due("edge(0)", x.edge(0), -2);
        due("packed(0)", x.packed(0), -2);
        due("run(0)", x.run(0), -2);
        due("years", x.years(0, 1, 0, 0, 0, 0), -2);
        due("no YEAR", x.count(6), 0);
        due("keep", x.keep(0), 0);
        due("back", x.back(0), 0);
        due("no LAND is back", x.count(3), 0);
    }

    private static void withoutValleys() {
        RoadShut x = Check.land("winter days 2 first 50 snow 50 clear 50;thing price 9 harm 9 back 9;plane carry 2 cost 10;mule 3;"
            + "lorry many 2 carry 3 cost 4;");
        due("DAYS", x.count(2), 2);
        due("none of no roads", x.together(2, 0), ALL);
        due("one of no roads", x.together(2, 1), -2);
        due("the empty set", x.set(2, 0), ALL);
        due("a set", x.set(2, 1), -2);
        due("behind DAY 0", x.set(0, 0), -2);
        due("behind DAY 3", x.set(3, 0), -2);
        due("edge", x.edge(0), 2);
        due("shuts", x.shuts(0, 0), -2);
        due("cost", x.cost(0, 0, 0), -2);
        due("packed", x.packed(0), -2);
        due("shut ahead of a YEAR", x.shut(0), -2);
        due("run", x.run(0), 0);
        due("a YEAR", x.count(6), 1);
        due("shut", x.shut(0), -2);
        due("lacks", x.lacks(0, 0, 0, 0), -2);
        Check.row(x, 0, 0, 0, 0);
        due("told", x.told(0), 0);
        due("given", x.given(0, 0, 0, 0), -2);
        due("judge", x.judge(0, 0), -2);
        Check.row(x, 0, 0, 0, 1);
        due("told of one", x.told(0), -2);
        x.row(0, 0, 0);
        due("told by no numbers", x.told(0), 0);
        due("given by no numbers", x.given(0, 0, 0, 0), -2);
    }

    private static void withoutThings() {
        RoadShut x = Check.land("winter days 2 first 50 snow 50 clear 50;valley shut 50 room 999 wants;valley shut 50 room 0 wants;"
            + "path 0 1 days 30;");
        due("shuts", x.shuts(0, 1), 250 * BILLION);
        due("wants", x.wants(0, 0, 1), -2);
        due("cost", x.cost(0, 0, 0), -2);
        due("worth", x.worth(0, 0, 0), NOTHING);
        due("signs", x.signs(0, 0), NOTHING);
        due("shares", x.shares(0, 1, 0), NOTHING);
        due("packed in room", x.packed(0), 0);
        due("packed without", x.packed(1), 0);
        due("gap", x.gap(1), 0);
        due("pack", x.pack(0, 0), -2);
        due("edge", x.edge(0), -2);
        due("path", x.path(0, 1, 0, 0), -2);
        CHECK.holds("fed", x.fed(0, 1) > 0);
        Check.row(x, 0, 0, 3, 4);
        due("given", x.given(0, 0, 7, 1), 4);
        due("asks", x.asks(0, 0, 7, 1, 0), -2);
        due("pays", x.pays(0, 0, 7, 1, 0), -2);
        Check.row(x, 0, 0, 3);
        due("told", x.told(0), 2);
        due("shut", x.shut(1), 1);
        due("lacks", x.lacks(0, 0, 0, 0), -2);
        Check.row(x, 0, 0, 1, 0);
        due("judge", x.judge(0, 0), 0);
        due("paid", x.paid(0, 0, 0), NOTHING);
        due("years", x.years(0, 1, 0, 0, 0, 0), -2);
    }

    /** Nothing is eaten behind the last DAY. */
    private static void oneDay() {
        RoadShut x = Check.land("winter days 1 first 100 snow 0 clear 0;thing price 5 harm 999 back 3;valley shut 100 room 9 wants 9;"
            + "valley shut 0 room 9 wants 9;path 0 1 days 30;");
        due("shuts on DAY 1", x.shuts(0, 1), ALL);
        due("never", x.shuts(0, 0), 0);
        due("day 2", x.shuts(0, 2), -2);
        due("by DAY 1", x.by(0, 1), ALL);
        due("by DAY 0", x.by(0, 0), -2);
        due("wants nothing any more", x.wants(0, 0, 1), 0);
        due("cost of none", x.cost(0, 0, 0), 0);
        due("cost of one", x.cost(0, 0, 1), 8000);
        due("best", x.best(0, 0), 0);
        due("sure", x.sure(0, 0, 0), ALL);
        due("need", x.need(0, 0, 0), 0);
        due("late", x.late(0, 0), 0);
        due("today", x.today(0, 0, 1, true, 0), 0);
        due("last", x.last(0, 0), -1);
        due("signs", x.signs(0, 0), 0);
        due("fed", x.fed(0, 1), 0);
        due("run", x.run(3), 1);
        due("shut", x.shut(0), 1);
        due("lacks", x.lacks(0, 0, 0, 0), 0);
        due("on no DAY", x.lacks(0, 0, 0, 2), 0);
        due("all is left over", x.lacks(0, 0, 999, 1), 999);
    }

    private static final String SIX = "winter days 60 first 100 snow 100 clear 100;" + "thing price 99 harm 999 back 99;".repeat(3)
        + "valley shut 100 room 999 wants 9 9 9;".repeat(6) + "lorry many 9 carry 50 cost 999;plane carry 50 cost 9999;mule 99;"
        + "path 5 4 days 30;";

    private static void greatestRoads() {
        RoadShut x = Check.land(SIX);
        for (int valley = 0; valley < 6; valley++) {
            due("all on DAY 1", x.shuts(valley, 1), ALL);
            due("none on DAY 60", x.shuts(valley, 60), 0);
            due("none never", x.shuts(valley, 0), 0);
            due("by DAY 60", x.by(valley, 60), ALL);
            due("by all of 1,000", x.when(valley, 1000), 1);
            due("both", x.both(valley, 1, (valley + 1) % 6, 1), ALL);
            due("both later", x.both(valley, 60, (valley + 1) % 6, 60), 0);
            due("wants", x.wants(valley, 2, 1), 531);
            due("wants at last", x.wants(valley, 2, 59), 9);
            due("wants nothing", x.wants(valley, 2, 60), 0);
        }
        due("all six", x.together(60, 6), ALL);
        due("five", x.together(60, 5), 0);
        due("the whole set", x.set(60, 63), ALL);
        due("the empty set", x.set(1, 0), 0);
        due("fed", x.fed(5, 4), 0);
    }

    private static void greatestStores() {
        RoadShut x = Check.land(SIX);
        due("cost of none", x.cost(5, 2, 0), 1000L * 999 * 531);
        due("cost of all that is wanted", x.cost(5, 2, 531), 1000L * 99 * 531);
        due("cost of 999", x.cost(5, 2, 999), 1000L * (99 * 999 + 99 * 468));
        due("the first is worth", x.worth(5, 2, 0), 900000);
        due("the last that is wanted", x.worth(5, 2, 530), 900000);
        due("the next", x.worth(5, 2, 531), -198000);
        due("the last", x.worth(5, 2, 998), -198000);
        due("none beyond", x.worth(5, 2, 999), NOTHING);
        due("best", x.best(5, 2), 531);
        due("not sure", x.sure(5, 2, 530), 0);
        due("sure", x.sure(5, 2, 531), ALL);
        due("need in no winter", x.need(5, 2, 0), 531);
        due("need in 999", x.need(5, 2, 999), 531);
        due("need in 1,000", x.need(5, 2, 1000), 0);
        // 1,593 are wanted, 999 have room: of like ones THING 0 has least, then 1
        due("packed", x.packed(5), 1000L * (99 * 999 + 999 * 594));
        due("pack 0", x.pack(5, 0), 0);
        due("pack 1", x.pack(5, 1), 468);
        due("pack 2", x.pack(5, 2), 531);
        due("gap", x.gap(5), 1000L * 900 * 594);
    }

    private static void greatestLorries() {
        RoadShut x = Check.land(SIX);
        // nine loads of fifty on DAY 1, as it shuts then for sure: 81 lack
        due("late", x.late(0, 0), 1000L * (9 * (999 + 50 * 99) + 81 * 999));
        due("today", x.today(0, 0, 1, false, 0), 9);
        due("today by 81", x.today(0, 0, 1, true, 81), 9);
        due("today by 600", x.today(0, 0, 60, true, 600), 0);
        due("by 531", x.today(0, 0, 1, true, 531), 0);
        // one that lacks is worth no load: 999 against 999 and 50 times 99, and 49 times 99 back
        due("by 530", x.today(0, 0, 1, true, 530), 0);
        // DAY 2 wants 522: 450 lie there, two more loads go
        due("last, if it never snows", x.last(0, 0), 2);
        due("signs: eleven lorries for 531 sacks", x.signs(0, 0), 1000L * (99 * 531 + 11 * 999) - x.late(0, 0));
        RoadShut one = Check.land(SIX.replace("carry 50 cost 999;plane", "carry 1 cost 999;plane"));
        due("a lorry for a sack is too dear", one.late(0, 0), 1000L * 999 * 531);
        due("as it is from the first", one.signs(0, 0), 0);
        due("none goes", one.today(0, 0, 1, false, 0), 0);
        due("on no DAY", one.last(0, 0), -1);
    }

    private static void greatestForkAndPlanes() {
        RoadShut x = Check.land(SIX);
        due("fork of none", x.fork(0, 5, 0, 0), 1000L * 999 * 1062);
        due("fork of 999", x.fork(0, 5, 0, 999), 1000L * (99 * 999 + 99 * 999 + 999 * 63));
        due("middle", x.middle(5, 0, 0), 999);
        due("shares", x.shares(0, 5, 0), 1000L * (2 * 99 * 531) - 1000L * (2 * 99 * 999 + 999 * 63));
        due("ten loads and 31", x.flown(0, 0, 0), 1000L * 11 * 9999);
        due("flown 999", x.flown(0, 0, 999), x.cost(0, 0, 999));
        due("plane", x.plane(0, 0), 531);
        due("edge: 10 are 9,990, 11 are 10,989", x.edge(0), 11);
        due("path, shut on one DAY", x.path(5, 4, 0, 0), 1000L * 999 * 531);
        due("path of 999", x.path(5, 4, 0, 999), x.cost(5, 0, 999));
    }

    private static void greatestShares() {
        RoadShut x = Check.land(SIX);
        Check.row(x, 0, 1, 999, 999, 999, 999, 999, 999);
        due("by parts", x.given(0, 0, 99999, 5), 16666);
        due("by a level", x.given(0, 1, 99999, 5), 999);
        due("just all", x.given(0, 1, 5994, 5), 999);
        due("one less", x.given(0, 1, 5993, 5), 998);
        due("asks the fewest that give 531", x.asks(0, 0, 99999, 5, 0), 27);
        due("which pays nothing", x.pays(0, 0, 99999, 5, 0), 0);
        Check.row(x, 0, 1, 999, 999, 999, 999, 999, 0);
        due("asking nothing", x.given(0, 0, 99999, 5), 0);
        due("pays all", x.pays(0, 0, 99999, 5, 0), 1000L * 999 * 531);
        due("pays all by a level", x.pays(0, 1, 99999, 5, 0), 1000L * 999 * 531);
        due("asks what is wanted", x.asks(0, 1, 99999, 5, 0), 531);
    }

    private static void greatestFires() {
        RoadShut x = Check.land(SIX);
        long none = 1000L * 999 * 531;
        long price = 1000L * 99 * 999;
        due("burnt for sure", x.burnt(0, 0, 999, 100), none + price);
        due("burnt never", x.burnt(0, 0, 999, 0), x.cost(0, 0, 999));
        due("spread, burnt for sure", x.spread(0, 0, 999, 100), none + price);
        due("spread, burnt never", x.spread(0, 0, 999, 0), x.cost(0, 0, 999));
        // 499 in the first, 500 in the second, either of which is too few
        long first = price + 1000L * 999 * 32;
        long second = price + 1000L * 999 * 31;
        due("spread by half", x.spread(0, 0, 999, 50), (2500 * x.cost(0, 0, 999) + 2500 * (first + second) + 2500 * (none + price)) / 10000);
        due("bear never", x.bear(0, 0, 0), 531);
        due("bear for sure", x.bear(0, 0, 100), 0);
    }

    private static void greatestYears() {
        RoadShut x = Check.land(SIX);
        due("all shut", x.run(2000000000), 6);
        due("on DAY 1", x.shut(5), 1);
        due("lacking", x.lacks(5, 2, 0, 0), 531);
        due("left over", x.lacks(5, 2, 999, 1), 468);
        due("years that shut", x.years(2000000000, 100, 5, 2, 0, 0), 100);
        due("all lacking", x.years(2000000000, 100, 5, 2, 0, 1), 53100);
        due("the most lacking", x.years(2000000000, 100, 5, 2, 0, 2), 531);
        due("all left over", x.years(2000000000, 100, 5, 2, 999, 3), 46800);
        x.row(0, 0, 60);
        due("an open YEAR", x.told(0), 0);
        long[] nine = new long[60];
        java.util.Arrays.fill(nine, 9);
        Check.row(x, 1, 3, nine);
        due("nine lorries on all DAYS", x.judge(1, 5), 0);
        due("paid", x.paid(1, 5, 2), 1000L * (540 * 999 + 27000 * 99 + 27000 * 99));
        due("years all left over", Check.land(SIX.replace("first 100 snow 100 clear 100", "first 0 snow 0 clear 0"))
            .years(0, 100, 0, 0, 999, 3), 99900);
    }

    private static void chancesAtTheirBounds() {
        RoadShut never = Check.land("winter days 60 first 0 snow 100 clear 0;thing price 1 harm 9 back 0;valley shut 100 room 9 wants 9;");
        due("no snow ever", never.shuts(0, 0), ALL);
        due("by none", never.when(0, 1), -1);
        due("sure of nothing laid", never.sure(0, 0, 0), ALL);
        RoadShut open = Check.land("winter days 60 first 100 snow 100 clear 100;thing price 1 harm 9 back 0;valley shut 0 room 9 wants 9;");
        due("snow, and open yet", open.shuts(0, 0), ALL);
        RoadShut last = Check.land("winter days 60 first 100 snow 100 clear 0;thing price 1 harm 9 back 0;valley shut 1 room 9 wants 9;");
        due("one in the hundred", last.shuts(0, 1), 10 * BILLION);
        due("of 99 in the hundred", last.shuts(0, 2), 9900000000L);
        RoadShut first = Check.land("winter days 60 first 0 snow 0 clear 100;thing price 1 harm 9 back 0;valley shut 100 room 9 wants 9;");
        due("DAY 1 is by first", first.shuts(0, 1), 0);
        due("DAY 2 is by clear", first.shuts(0, 2), ALL);
        RoadShut thin = Check.land("winter days 2 first 1 snow 0 clear 0;valley shut 10 room 0 wants;");
        due("one of 1,000", thin.when(0, 1), 1);
        due("not two", thin.when(0, 2), -1);
    }

    /** PARTS are cut down to none, and none is lost: what is left over is the other one. */
    private static void partsDownToOne() {
        // snow on all DAYS, shut by half: 10 to the 12 by 2 to the 12 is whole, then it is cut
        RoadShut x = Check.land("winter days 60 first 100 snow 100 clear 0;valley shut 50 room 0 wants;");
        long open = ALL;
        for (int day = 1; day <= 60; day++) {
            due("half of what is open, cut, on DAY " + day, x.shuts(0, day), open / 2);
            open -= open / 2;
        }
        due("one PART stays", x.shuts(0, 0), 1);
        due("behind all", x.by(0, 60), ALL - 1);
        due("1,000 of 1,000 are not reached", x.when(0, 1000), -1);
        due("999 are", x.when(0, 999), 10);
        RoadShut two = Check.land("winter days 60 first 100 snow 100 clear 0;valley shut 50 room 0 wants;valley shut 50 room 0 wants;");
        long sum = 0;
        for (int day = 0; day <= 60; day++) {
            sum += two.both(0, day, 1, 0) + two.both(0, 0, 1, day) + two.both(0, day, 1, 1) + two.both(0, 1, 1, day);
        }
        CHECK.holds("of two", sum > 0 && two.both(0, 0, 1, 0) == 1);
        due("of two, none shut", two.set(60, 0), 1);
        due("of all", two.together(60, 0) + two.together(60, 1) + two.together(60, 2), ALL);
    }

    private static void roomAtItsBounds() {
        for (int room : new int[] {0, 1, 26, 27, 28, 999}) {
            RoadShut x = Check.land("winter days 4 first 100 snow 0 clear 0;thing price 3 harm 5 back 1;valley shut 100 room " + room
                + " wants 9;");
            int laid = Math.min(27, room);
            due("pack in " + room, x.pack(0, 0), laid);
            due("packed in " + room, x.packed(0), 1000 * (3 * laid + 5 * (27 - laid)));
            due("gap of " + room, x.gap(0), 1000 * 2 * (27 - laid));
        }
        RoadShut even = Check.land("winter days 4 first 100 snow 0 clear 0;thing price 5 harm 5 back 0;thing price 0 harm 0 back 0;"
            + "valley shut 100 room 999 wants 9 9;");
        due("of several the least", even.pack(0, 0), 0);
        due("of several the least of 1", even.pack(0, 1), 0);
        due("no gap", even.gap(0), 0);
    }

    private static void lacksAtItsBounds() {
        RoadShut x = Check.land("winter days 60 first 0 snow 0 clear 0;thing price 1 harm 1 back 1;thing price 1 harm 1 back 1;"
            + "valley shut 0 room 0 wants 9 0;");
        int[] shutOn = {0, 1, 58, 59, 60};
        for (int day : shutOn) {
            x.row(0, 0, 60);
            if (day > 0) {
                x.write(0, day - 1, 1);
            }
            x.told(0);
            int wanted = day == 0 ? 0 : 9 * (60 - day);
            for (int sacks : new int[] {0, 1, 8, 9, 10, Math.max(0, wanted - 1), wanted, wanted + 1, 998, 999}) {
                due("lacking", x.lacks(0, 0, sacks, 0), Math.max(0, wanted - sacks));
                due("left over", x.lacks(0, 0, sacks, 1), Math.max(0, sacks - wanted));
                due("the first DAY", x.lacks(0, 0, sacks, 2), sacks < wanted ? day + 1 + sacks / 9 : 0);
                due("of what is not wanted none lacks", x.lacks(0, 1, sacks, 0), 0);
                due("it is left over", x.lacks(0, 1, sacks, 1), sacks);
                due("on no DAY", x.lacks(0, 1, sacks, 2), 0);
            }
        }
    }

    private static void planesAtTheirEdge() {
        for (int cost : new int[] {0, 1, 9, 10, 11, 19, 20, 21, 499, 500, 501, 9999}) {
            for (int carry : new int[] {1, 2, 49, 50}) {
                RoadShut x = Check.land("winter days 2 first 100 snow 0 clear 0;thing price 0 harm 10 back 0;thing price 0 harm 0 back 0;"
                    + "valley shut 100 room 0 wants 7 7;plane carry " + carry + " cost " + cost + ";");
                int fewest = cost / 10 + 1;
                due("edge of " + cost + " by " + carry, x.edge(0), fewest <= carry ? fewest : -1);
                due("edge without harm", x.edge(1), -1);
                long loads = 7 / carry * Math.min(cost, 10L * carry) + Math.min(cost, 10L * (7 % carry));
                due("flown by " + cost + " and " + carry, x.flown(0, 0, 0), 1000 * loads);
                due("flown without harm", x.flown(0, 1, 0), 0);
                due("nothing lacks", x.flown(0, 0, 7), 0);
                due("edge of no THING", x.edge(2), -2);
            }
        }
    }

    private static void pathsAtTheirEdges() {
        for (int days : new int[] {1, 2, 29, 30, 31, 32, 60}) {
            for (int path : new int[] {1, 2, 29, 30}) {
                RoadShut x = Check.land("winter days " + days + " first 100 snow 100 clear 0;thing price 0 harm 1 back 0;"
                    + "valley shut 100 room 0 wants 1;valley shut 0 room 0 wants 1;valley shut 100 room 0 wants 1;"
                    + "path 0 1 days " + path + ";path 2 0 days " + path + ";");
                int fed = Math.min(path, days - 1);
                due("fed till the last DAY", x.fed(0, 1), 100 * fed);
                due("eats the others", x.path(0, 1, 0, 0), 1000 * (days - 1 - fed));
                due("never shut, never fed", x.fed(1, 0), 0);
                due("shut on one DAY", x.fed(0, 2), 0);
                due("and the other way round", x.fed(2, 0), 0);
                due("without PATH", x.fed(1, 2), 0);
                due("without PATH as cost()", x.path(2, 1, 0, 0), x.cost(2, 0, 0));
            }
        }
        // the other one shuts on DAY 1 by half, on DAY 2 by a quarter, on DAY 3 by an eighth, never by an eighth
        int[] due = {50, 75, 75};
        for (int path = 1; path <= 3; path++) {
            RoadShut x = Check.land("winter days 3 first 100 snow 100 clear 0;valley shut 100 room 0 wants;valley shut 50 room 0 wants;"
                + "path 0 1 days " + path + ";");
            due("till the other one's road shuts", x.fed(0, 1), due[path - 1]);
        }
        // shut by half on each DAY, all but one PART: a DAY less one PART of 10 to the 12
        RoadShut cut = Check.land("winter days 60 first 100 snow 100 clear 0;valley shut 50 room 0 wants;valley shut 0 room 0 wants;"
            + "path 0 1 days 1;");
        due("hundredths of days, cut", cut.fed(0, 1), 99);
    }

    private static void forkAtItsEdges() {
        RoadShut x = Check.land("winter days 2 first 100 snow 0 clear 0;thing price 7 harm 50 back 2;valley shut 100 room 0 wants 3;"
            + "valley shut 0 room 0 wants 9;mule 5;");
        // three are wanted for sure, by the one that shuts
        for (int sacks : new int[] {0, 1, 2, 3, 4, 999}) {
            long eaten = Math.min(3, sacks);
            long each = 7L * sacks + 5 * eaten + 50 * (3 - eaten) + 2 * (sacks - eaten);
            due("fork of " + sacks, x.fork(0, 1, 0, sacks), 1000 * each);
            due("fork the other way round of " + sacks, x.fork(1, 0, 0, sacks), 1000 * each);
        }
        due("middle", x.middle(0, 1, 0), 3);
        due("shares: a mule for each", x.shares(0, 1, 0), -15000);
        RoadShut even = Check.land("winter days 2 first 100 snow 0 clear 0;thing price 45 harm 50 back 2;valley shut 100 room 0 wants 3;"
            + "valley shut 0 room 0 wants 9;mule 5;");
        due("of several the least", even.middle(0, 1, 0), 0);
    }

    private static void levelsAtTheirEdges() {
        RoadShut x = Check.land("winter days 2 first 100 snow 0 clear 0;thing price 0 harm 3 back 0;" + "valley shut 100 room 0 wants 9;".repeat(3));
        Check.row(x, 0, 1, 0, 1, 999);
        int[][] byLevel = {{0, 0, 0, 0}, {1, 0, 0, 0}, {2, 0, 1, 1}, {3, 0, 1, 2}, {999, 0, 1, 998}, {1000, 0, 1, 999}, {1001, 0, 1, 999},
            {99999, 0, 1, 999}};
        for (int[] d : byLevel) {
            for (int valley = 0; valley < 3; valley++) {
                due("level of " + d[0] + " for " + valley, x.given(0, 1, d[0], valley), d[1 + valley]);
            }
        }
        int[][] byParts = {{0, 0, 0, 0}, {1, 0, 0, 0}, {2, 0, 0, 1}, {999, 0, 0, 998}, {1000, 0, 1, 999}, {99999, 0, 99, 99899}};
        for (int[] d : byParts) {
            for (int valley = 0; valley < 3; valley++) {
                due("parts of " + d[0] + " for " + valley, x.given(0, 0, d[0], valley), d[1 + valley]);
            }
        }
        due("who asks nothing would ask", x.asks(0, 1, 1000, 0, 0), 9);
        due("and gain", x.pays(0, 1, 1000, 0, 0), 27000);
        due("nothing to share: ask nothing", x.asks(0, 1, 0, 2, 0), 0);
        due("nor gain", x.pays(0, 1, 0, 2, 0), 0);
        Check.row(x, 0, 1, 0, 0, 0);
        due("nothing is asked, by parts", x.given(0, 0, 99999, 0), 0);
        due("nothing is asked, by a level", x.given(0, 1, 99999, 0), 0);
        due("one alone is given all", x.asks(0, 0, 99999, 1, 0), 1);
        due("one alone gains all", x.pays(0, 0, 99999, 1, 0), 27000);
    }

    /** Of all levels 0 .. 999 the greatest, and of all numbers to ask the least: none is left out. */
    private static void everyLevel() {
        String one = "valley shut 100 room 0 wants 9;";
        for (int sacks = 0; sacks <= 2000; sacks += 400) {
            RoadShut x = Check.land("winter days 60 first 100 snow 0 clear 0;thing price 0 harm 3 back 0;" + one + one);
            Check.row(x, 0, 1, 999, 999);
            for (int more = 0; more < 400 && sacks + more <= 2000; more++) {
                due("level of " + (sacks + more), x.given(0, 1, sacks + more, 1), Math.min(999, (sacks + more) / 2));
            }
        }
        // 531 are wanted: of fewer sacks all that the level gives, by asking just that
        for (int sacks = 0; sacks <= 1200; sacks += 200) {
            RoadShut x = Check.land("winter days 60 first 100 snow 0 clear 0;thing price 0 harm 3 back 0;" + one + one);
            Check.row(x, 0, 1, 0, 999);
            for (int more = 0; more < 200; more++) {
                int level = Math.min(531, (sacks + more) / 2);
                due("asks of " + (sacks + more), x.asks(0, 1, sacks + more, 0, 0), level);
                due("pays of " + (sacks + more), x.pays(0, 1, sacks + more, 0, 0), 3000L * level);
            }
        }
    }

    /** Half of the sacks, cut, in the first store. */
    private static void halvesOfStores() {
        RoadShut x = Check.land("winter days 2 first 100 snow 0 clear 0;thing price 1 harm 10 back 0;valley shut 100 room 0 wants 2;");
        for (int n : new int[] {0, 1, 50, 99, 100}) {
            for (int sacks = 0; sacks <= 5; sacks++) {
                int first = sacks / 2;
                int second = sacks - first;
                long p = 100 - n;
                long sum = p * p * lack(sacks) + p * n * lack(first) + p * n * lack(second) + (long) n * n * lack(0);
                due("spread of " + sacks + " by " + n, x.spread(0, 0, sacks, n), 1000 * sacks + 1000 * sum / 10000);
                due("burnt of " + sacks + " by " + n, x.burnt(0, 0, sacks, n), 1000 * sacks + 1000 * (p * lack(sacks) + n * lack(0)) / 100);
            }
        }
        due("none by 100", x.bear(0, 0, 100), 0);
        due("two by 0", x.bear(0, 0, 0), 2);
        // of 2 sacks: 2 and 0.09 times 10 twice and 0.01 times 20, of 3: 4.1, of 4: 4.2
        due("two by 10", x.bear(0, 0, 10), 2);
        // of 2 sacks: 6, of 3: 5.4, of 4: 4.8
        due("four by 20: either store has two", x.bear(0, 0, 20), 4);
        RoadShut cut = Check.land("winter days 2 first 33 snow 0 clear 0;thing price 0 harm 7 back 0;valley shut 33 room 0 wants 1;");
        due("LOSS is 762.3, cut", cut.cost(0, 0, 0), 762);
        due("burnt by 1: 7.62, cut", cut.burnt(0, 0, 1, 1), 7);
        due("spread by 1: 7.62, cut", cut.spread(0, 0, 1, 1), 7);
        due("of several, cut, the least", cut.bear(0, 0, 1), 2);
    }

    private static long lack(int sacks) {
        return 10L * Math.max(0, 2 - sacks);
    }

    private static int draw(long seed, int which) {
        BigInteger x = BigInteger.valueOf(seed);
        for (int i = 0; i <= which; i++) {
            x = x.multiply(BigInteger.valueOf(1103515245)).add(BigInteger.valueOf(12345)).mod(BigInteger.ONE.shiftLeft(31));
        }
        return x.divide(BigInteger.valueOf(65536)).mod(BigInteger.valueOf(100)).intValue();
    }

    /** It snows, and a road shuts, if a draw is below its chance, not if it is just that. */
    private static void drawsAtTheirEdges() {
        for (int seed : new int[] {0, 1, 2, 65535, 1999999999, 2000000000}) {
            int sky = draw(seed, 0);
            int road = draw(seed, 1);
            int next = draw(seed, 2);
            due("just its chance of snow", oneRoad(sky, 100, 100).run(seed), 0);
            due("below it", oneRoad(sky + 1, 100, 100).run(seed), 2);
            due("just its shut", oneRoad(100, road, 0).run(seed), 0);
            due("below its shut", oneRoad(100, Math.min(100, road + 1), 0).run(seed), 1);
            due("just that of the next", oneRoad(100, 0, next).run(seed), 0);
            due("below that of the next", oneRoad(100, 0, Math.min(100, next + 1)).run(seed), 1);
            due("never", oneRoad(0, 100, 100).run(seed), 0);
            due("always", oneRoad(100, 100, 100).run(seed), 2);
        }
        // a road that is shut draws no more: then the third draw is that of DAY 2's sky
        RoadShut x = Check.land("winter days 2 first 100 snow " + (draw(1, 2) + 1) + " clear 0;valley shut 100 room 0 wants;"
            + "valley shut 0 room 0 wants;");
        due("one", x.run(1), 1);
        due("on DAY 1", x.shut(0), 1);
        due("the other never", x.shut(1), 0);
    }

    private static RoadShut oneRoad(int first, int shut, int other) {
        return Check.land("winter days 1 first " + first + " snow 0 clear 0;valley shut " + shut + " room 0 wants;valley shut " + other
            + " room 0 wants;");
    }

    private static void lastSeeds() {
        RoadShut x = Check.land("winter days 9 first 50 snow 50 clear 50;thing price 1 harm 1 back 1;valley shut 50 room 0 wants 1;");
        int shut = 0;
        for (int seed = 1999999901; seed <= 2000000000; seed++) {
            x.run(seed);
            shut += x.shut(0) > 0 ? 1 : 0;
        }
        due("a hundred up to the last seed", x.years(1999999901, 100, 0, 0, 0, 0), shut);
        due("one less is taken", x.years(1999999900, 1, 0, 0, 0, 0) >= 0 ? 0 : -2, 0);
        due("a seed below 0", x.years(-1, 100, 0, 0, 0, 0), -2);
        due("a seed beyond", x.years(2000000001, 1, 0, 0, 0, 0), -2);
    }

    /** What costs as much as it saves does not go; begun loads are whole ones. */
    private static void lorriesAtTheirEdges() {
        String start = "winter days 2 first 100 snow 0 clear 0;thing price 1 harm 10 back 0;valley shut 100 room 0 wants 9;lorry many 9 carry ";
        // a load of three costs 3 and the fare, and saves 30
        for (int fare : new int[] {0, 26, 27, 28}) {
            RoadShut x = Check.land(start + "3 cost " + fare + ";");
            boolean goes = fare < 27;
            due("today by a fare of " + fare, x.today(0, 0, 1, false, 0), goes ? 3 : 0);
            due("last by a fare of " + fare, x.last(0, 0), goes ? 1 : -1);
            due("late by a fare of " + fare, x.late(0, 0), goes ? 3000 * (3 + fare) : 90000);
            due("signs by a fare of " + fare, x.signs(0, 0), 0);
        }
        for (int carry : new int[] {1, 4, 5, 8, 9, 10, 50}) {
            RoadShut x = Check.land(start + carry + " cost 0;");
            int loads = (9 + carry - 1) / carry;
            boolean lastLoadPays = 10 * (9 - (loads - 1) * carry) > carry;
            int sent = lastLoadPays ? loads : loads - 1;
            due("loads of " + carry, x.today(0, 0, 1, true, 0), sent);
            due("late by loads of " + carry, x.late(0, 0), 1000 * (sent * carry + 10 * Math.max(0, 9 - sent * carry)));
            due("signs by loads of " + carry, x.signs(0, 0), 9000 - x.late(0, 0));
        }
        RoadShut few = Check.land("winter days 2 first 100 snow 0 clear 0;thing price 1 harm 10 back 0;valley shut 100 room 0 wants 9;"
            + "lorry many 2 carry 3 cost 0;");
        due("no more than there are", few.today(0, 0, 1, false, 0), 2);
        due("three lack", few.late(0, 0), 36000);
        due("by 600", few.today(0, 0, 1, false, 600), 0);
        due("by 601", few.today(0, 0, 1, false, 601), -2);
        due("by -1", few.today(0, 0, 1, false, -1), -2);
        due("DAY 2 is the last", few.today(0, 0, 2, false, 0), 0);
        due("no DAY 3", few.today(0, 0, 3, false, 0), -2);
        due("no DAY 0", few.today(0, 0, 0, false, 0), -2);
    }
}
