import java.util.ArrayList;
import java.util.List;
import java.util.Random;
import java.util.function.Supplier;

/**
 * Calls that change something (promises 2 to 4, 39, 40, 47 to 51) and rows that are read (33 to 35, 40, 43, 44): the last
 * that is taken, the first that is refused, and that all stays as it was behind a call that was refused.
 */
public final class StaysTest {
    private static final Check CHECK = new Check();
    private static final long NOTHING = -1000000000000L;
    private static final String LAND = "winter days 3 first 50 snow 60 clear 40;thing price 2 harm 10 back 1;"
        + "valley shut 50 room 4 wants 2;valley shut 20 room 9 wants 1;lorry many 2 carry 2 cost 1;path 0 1 days 1;";
    private static final String OTHER = "winter days 9 first 9 snow 9 clear 9;thing price 9 harm 9 back 9;valley shut 9 room 9 wants 9;";
    private static final int[] FAR = {Integer.MIN_VALUE, Integer.MIN_VALUE + 1, -65536, -1, 65536, Integer.MAX_VALUE};
    private static final int[] NO_SLOTS = {Integer.MIN_VALUE, -2, -1, 4, 5, 256, 65536, Integer.MAX_VALUE};

    public static void main(String[] args) {
        feedIsRefused();
        endIsRefused();
        landIsRefused();
        landIsTaken();
        toldIsRefused();
        toldAtItsBounds();
        drawnWithoutLand();
        backIsRefused();
        imagesStay();
        rowIsRefused();
        rowAtItsBounds();
        rowInPlaceOfAnother();
        writeIsRefused();
        writeIsCut();
        pasteIsRefused();
        pasteByAModel();
        rowsThatAskAtTheirBounds();
        whatIsNotSoInTurn();
        rowsThatSendAtTheirBounds();
        CHECK.finish();
    }

    /** Everything is there: LAND, YEAR, a TAPE with another LAND, three rows, two IMAGES. */
    private static RoadShut full(String taped) {
        RoadShut x = new RoadShut();
        Check.tell(x, OTHER);
        x.run(3);
        x.keep(0);
        Check.tell(x, LAND);
        x.keep(2);
        x.run(1);
        Check.row(x, 0, 1, 300, 600);
        Check.row(x, 1, 0, 0, 1, 2);
        Check.row(x, 3, 3, 1, 1);
        Check.tape(x, taped);
        return x;
    }

    private static RoadShut full() {
        return full(OTHER);
    }

    private static RoadShut withoutYear() {
        RoadShut x = Check.land(LAND);
        Check.row(x, 1, 0, 0, 1, 2);
        Check.tape(x, "?");
        return x;
    }

    private static List<Supplier<RoadShut>> states() {
        List<Supplier<RoadShut>> all = new ArrayList<>();
        all.add(StaysTest::full);
        all.add(StaysTest::withoutYear);
        all.add(RoadShut::new);
        return all;
    }

    private static void feedIsRefused() {
        for (int bytes = 1581; bytes <= 1600; bytes++) {
            String taped = OTHER + " ".repeat(bytes - OTHER.length());
            Seen.stays(CHECK, "feed behind " + bytes, () -> full(taped), x -> x.feed(-1, -1, -1, -1, -1), -1);
        }
    }

    private static void endIsRefused() {
        for (Supplier<RoadShut> state : states()) {
            int bytes = state.get().count(5);
            for (int n : new int[] {Integer.MIN_VALUE, -bytes, -1, bytes + 1, 1600, 1601, Integer.MAX_VALUE}) {
                if (n < 0 || n > bytes) {
                    Seen.stays(CHECK, "end(" + n + ") of " + bytes, state, x -> x.end(n), -1);
                }
            }
        }
    }

    private static void landIsRefused() {
        String[] faulty = {"?", "winter", OTHER + "mule 100;", OTHER + "winter", OTHER + "thing price 1 harm 1 back 1;".repeat(3)};
        for (String text : faulty) {
            RoadShut asked = full(text);
            CHECK.due("land of " + text, asked.land(), -4);
            CHECK.holds("all stays behind a FAULT", Seen.ofAllButFault(asked).equals(Seen.ofAllButFault(full(text))));
            Supplier<RoadShut> refusedOnce = () -> {
                RoadShut x = full(text);
                x.land();
                return x;
            };
            Seen.stays(CHECK, "land of " + text + " again", refusedOnce, RoadShut::land, -4);
            RoadShut mended = refusedOnce.get();
            mended.end(0);
            Check.tape(mended, OTHER);
            CHECK.due("mended", mended.land(), 3);
        }
    }

    /** The TAPE is empty then, and there is no YEAR; SLOTS and IMAGES are as they were. */
    private static void landIsTaken() {
        RoadShut x = full();
        CHECK.due("land", x.land(), 3);
        int[] due = {1, 1, 9, 3, 0, 0, 0, 3};
        for (int what = 0; what < due.length; what++) {
            CHECK.due("count " + what + " then", x.count(what), due[what]);
        }
        CHECK.due("no YEAR", x.shut(0), -1);
        CHECK.due("the second VALLEY is gone", x.shut(1), -2);
        CHECK.due("a row", x.told(1), -2);
        CHECK.due("its second number has another", x.write(1, 2, 1), 0);
        CHECK.due("now it has not", x.told(1), 1);
        CHECK.due("on DAY 2", x.shut(0), 2);
        CHECK.due("an image", x.back(2), 0);
        CHECK.due("with its LAND", x.count(2), 3);
        CHECK.due("without YEAR", x.shut(1), -1);
        CHECK.due("another image", x.back(0), 0);
        CHECK.due("with its YEAR", x.count(6), 1);
        CHECK.due("nothing in this one", x.back(1), -6);
    }

    private static void toldIsRefused() {
        long[][] wrong = {{0, 0, 0, 0}, {4}, {0, 0, 4}, {3, -1}, {8, 1}, {Long.MIN_VALUE}, {1L << 32}, {1L << 62, 1}, {0, 0, Long.MAX_VALUE}};
        for (long[] numbers : wrong) {
            Supplier<RoadShut> made = () -> {
                RoadShut x = full();
                Check.row(x, 2, 3, numbers);
                return x;
            };
            Seen.stays(CHECK, "told " + java.util.Arrays.toString(numbers), made, x -> x.told(2), -2);
        }
        for (int slot : NO_SLOTS) {
            for (Supplier<RoadShut> state : states()) {
                Seen.stays(CHECK, "told(" + slot + ")", state, x -> x.told(slot), -2);
            }
        }
        Seen.stays(CHECK, "told of nothing", StaysTest::full, x -> x.told(2), -6);
        Seen.stays(CHECK, "told of nothing without YEAR", StaysTest::withoutYear, x -> x.told(2), -6);
    }

    private static void toldAtItsBounds() {
        for (int days : new int[] {1, 2, 59, 60}) {
            for (int valleys = 0; valleys <= 6; valleys++) {
                String text = "winter days " + days + " first 0 snow 0 clear 0;" + "valley shut 0 room 0 wants;".repeat(valleys);
                int all = (1 << valleys) - 1;
                for (int width = 0; width < 4; width++) {
                    RoadShut x = Check.land(text);
                    x.row(0, width, days);
                    CHECK.due("as long as the winter, none", x.told(0), 0);
                    x.write(0, days - 1, all);
                    CHECK.due("all on the last DAY", x.told(0), valleys);
                    for (int valley = 0; valley < valleys; valley++) {
                        CHECK.due("shut then", x.shut(valley), days);
                    }
                    x.write(0, 0, all);
                    CHECK.due("all on the first", x.told(0), valleys);
                    for (int valley = 0; valley < valleys; valley++) {
                        CHECK.due("shut first, nothing happens later", x.shut(valley), 1);
                    }
                    x.write(0, 0, all + 1);
                    CHECK.due("one that there is not", x.told(0), -2);
                    x.write(0, 0, -1);
                    CHECK.due("below 0", x.told(0), -2);
                    CHECK.due("the YEAR stays", x.count(6), 1);
                    x.row(0, width, days - 1);
                    CHECK.due("shorter than the winter", x.told(0), 0);
                    x.row(0, width, 0);
                    CHECK.due("no numbers at all", x.told(0), 0);
                    CHECK.due("longer than the winter", days < 60 ? x.row(0, width, days + 1) + x.told(0) : -2, -2);
                }
            }
        }
    }

    private static void drawnWithoutLand() {
        Supplier<RoadShut> empty = () -> {
            RoadShut x = full();
            x.end(0);
            x.land();
            return x;
        };
        for (Supplier<RoadShut> state : List.<Supplier<RoadShut>>of(RoadShut::new, empty)) {
            for (int seed : new int[] {-1, 0, 1, 2000000000, 2000000001}) {
                Seen.stays(CHECK, "run(" + seed + ") without LAND", state, x -> x.run(seed), -2);
            }
            for (int slot = -1; slot <= 4; slot++) {
                int of = slot;
                Seen.stays(CHECK, "told(" + slot + ") without LAND", state, x -> x.told(of), -2);
            }
        }
    }

    private static void backIsRefused() {
        for (Supplier<RoadShut> state : states()) {
            for (int k : new int[] {Integer.MIN_VALUE, -1, 3, 4, Integer.MAX_VALUE}) {
                Seen.stays(CHECK, "back(" + k + ")", state, x -> x.back(k), -2);
                Seen.stays(CHECK, "keep(" + k + ")", state, x -> x.keep(k), -2);
            }
            Seen.stays(CHECK, "back(1) of nothing", state, x -> x.back(1), -6);
        }
        for (int k = 0; k < 3; k++) {
            int of = k;
            Seen.stays(CHECK, "back(" + k + ") of a new one", RoadShut::new, x -> x.back(of), -6);
        }
    }

    /** TAPE, SLOTS and FAULT are no part of an image; what comes later does not change it. */
    private static void imagesStay() {
        for (int k = 0; k < 3; k++) {
            RoadShut x = full();
            CHECK.due("keep", x.keep(k), 0);
            int shut = x.shut(1);
            long cost = x.cost(0, 0, 1);
            CHECK.due("another YEAR", x.told(1), 2);
            CHECK.due("another LAND", x.land(), 3);
            x.row(0, 0, 60);
            x.row(2, 0, 0);
            x.feed(1, 1, 1, 1, 1);
            CHECK.due("a FAULT", x.land(), -4);
            CHECK.due("back", x.back(k), 0);
            CHECK.due("its YEAR", x.shut(1), shut);
            CHECK.due("its LAND", x.cost(0, 0, 1), cost);
            CHECK.due("the TAPE is that of now", x.count(5), 20);
            CHECK.due("SLOTS are those of now", x.count(7), 4);
            CHECK.due("the FAULT is that of now", x.fault(0), 1);
            x.run(9);
            x.end(0);
            x.land();
            CHECK.due("back again", x.back(k), 0);
            CHECK.due("its YEAR again", x.shut(1), shut);
            CHECK.due("keep what came back", x.keep((k + 1) % 3), 0);
            x.land();
            CHECK.due("back to that", x.back((k + 1) % 3), 0);
            CHECK.due("its YEAR once more", x.shut(1), shut);
        }
        RoadShut none = new RoadShut();
        CHECK.due("keep no LAND", none.keep(0), 0);
        Check.tell(none, LAND);
        none.run(1);
        CHECK.due("back to none", none.back(0), 0);
        CHECK.holds("as new, but for the SLOTS and the TAPE", Seen.of(none).equals(Seen.of(keptNone())));
    }

    private static RoadShut keptNone() {
        RoadShut x = new RoadShut();
        x.keep(0);
        return x;
    }

    private static void rowIsRefused() {
        int[] wrongWidths = {Integer.MIN_VALUE, -2, -1, 4, 5, 8, 256, Integer.MAX_VALUE};
        int[] tooMany = {61, 62, 256, 65536, Integer.MAX_VALUE};
        int[] below = {Integer.MIN_VALUE, -65536, -60, -2, -1};
        for (Supplier<RoadShut> state : states()) {
            for (int slot = 0; slot < 4; slot++) {
                int of = slot;
                for (int width : wrongWidths) {
                    Seen.stays(CHECK, "row of WIDTH " + width, state, x -> x.row(of, width, 3), -2);
                    Seen.stays(CHECK, "row of WIDTH " + width + " below 0", state, x -> x.row(of, width, -1), -2);
                }
                for (int n : tooMany) {
                    Seen.stays(CHECK, "row of " + n, state, x -> x.row(of, of, n), -2);
                }
                for (int n : below) {
                    Seen.stays(CHECK, "row of " + n, state, x -> x.row(of, of, n), -3);
                }
            }
            for (int slot : NO_SLOTS) {
                for (int n : new int[] {-1, 0, 60, 61}) {
                    Seen.stays(CHECK, "row in SLOT " + slot, state, x -> x.row(slot, 0, n), -2);
                }
            }
        }
    }

    private static void rowAtItsBounds() {
        for (int slot = 0; slot < 4; slot++) {
            for (int width = 0; width < 4; width++) {
                for (int n : new int[] {0, 1, 2, 59, 60}) {
                    RoadShut x = new RoadShut();
                    CHECK.due("row", x.row(slot, width, n), 0);
                    CHECK.due("one SLOT has one", x.count(7), 1);
                    CHECK.due("its first", x.write(slot, 0, 1), n > 0 ? 0 : -7);
                    CHECK.due("its last", x.write(slot, n - 1, 1), n > 0 ? 0 : -7);
                    CHECK.due("none behind it", x.write(slot, n, 1), -7);
                    CHECK.due("none ahead of it", x.write(slot, -1, 1), -7);
                    CHECK.due("all of it", x.paste(slot, 0, slot, 0, n), 0);
                    CHECK.due("more than all", x.paste(slot, 0, slot, 0, n + 1), -7);
                    CHECK.due("another SLOT has nothing", x.write((slot + 1) % 4, 0, 1), -6);
                }
            }
        }
        RoadShut x = new RoadShut();
        for (int slot = 0; slot < 4; slot++) {
            CHECK.due("SLOTS with a row", x.count(7), slot);
            x.row(slot, slot, 60 * (slot % 2));
        }
        CHECK.due("all SLOTS", x.count(7), 4);
    }

    /** A new row is all 0, of its own WIDTH and length, and the others are as they were. */
    private static void rowInPlaceOfAnother() {
        for (int width = 0; width < 4; width++) {
            RoadShut x = full();
            CHECK.due("row", x.row(1, width, 3), 0);
            CHECK.due("no more SLOTS", x.count(7), 3);
            CHECK.due("all 0", x.told(1), 0);
            CHECK.due("its length", x.write(1, 3, 1), -7);
            CHECK.due("its WIDTH and that of SLOT 0", x.paste(1, 0, 0, 0, 0), width == 1 ? 0 : -8);
            CHECK.due("its WIDTH and that of SLOT 3", x.paste(1, 0, 3, 0, 0), width == 3 ? 0 : -8);
            CHECK.due("SLOT 0 is as it was", x.given(0, 1, 99999, 1), 600);
            CHECK.due("SLOT 3 is as it was", x.judge(3, 0), 0);
        }
    }

    private static void writeIsRefused() {
        for (long v : new long[] {Long.MIN_VALUE, -1, 0, 1, Long.MAX_VALUE}) {
            for (Supplier<RoadShut> state : states()) {
                for (int slot : NO_SLOTS) {
                    Seen.stays(CHECK, "write to SLOT " + slot, state, x -> x.write(slot, 0, v), -2);
                    Seen.stays(CHECK, "write beyond SLOT " + slot, state, x -> x.write(slot, -1, v), -2);
                }
                for (int i : new int[] {Integer.MIN_VALUE, -1, 0, 1, 60, Integer.MAX_VALUE}) {
                    Seen.stays(CHECK, "write to nothing", state, x -> x.write(2, i, v), -6);
                }
            }
            for (int i : new int[] {Integer.MIN_VALUE, -2, -1, 3, 4, 59, 60, Integer.MAX_VALUE}) {
                Seen.stays(CHECK, "write number " + i, StaysTest::full, x -> x.write(1, i, v), -7);
            }
            Seen.stays(CHECK, "write to a row of none", StaysTest::withEmptyRow, x -> x.write(2, 0, v), -7);
        }
    }

    private static RoadShut withEmptyRow() {
        RoadShut x = full();
        x.row(2, 2, 0);
        return x;
    }

    /** Cut to its WIDTH, its highest bit being the sign: seen by a level above all, which gives what is asked. */
    private static void writeIsCut() {
        List<Long> values = new ArrayList<>();
        for (int bit = 0; bit < 64; bit++) {
            for (int near = -2; near <= 2; near++) {
                values.add((1L << bit) + near);
                values.add(-(1L << bit) + near);
                values.add((1L << bit) + 999 + near);
            }
        }
        Random random = new Random(5);
        for (int i = 0; i < 200; i++) {
            values.add(random.nextLong());
        }
        for (int width = 0; width < 4; width++) {
            RoadShut x = null;
            for (int i = 0; i < values.size(); i++) {
                if (i % 100 == 0) {
                    x = Check.land("winter days 1 first 0 snow 0 clear 0;valley shut 0 room 0 wants;");
                    x.row(0, width, 1);
                    x.row(1, width, 0);
                    x.told(1);
                }
                long v = values.get(i);
                long kept = width == 0 ? (byte) v : width == 1 ? (short) v : width == 2 ? (int) v : v;
                CHECK.due("write", x.write(0, 0, v), 0);
                CHECK.due(v + " in WIDTH " + width, x.given(0, 1, 99999, 0), kept >= 0 && kept <= 999 ? kept : -2);
                CHECK.due(v + " sent in WIDTH " + width, x.judge(0, 0), kept == 0 || kept == 1 ? 0 : 1);
                CHECK.due(v + " told in WIDTH " + width, x.told(0), kept == 0 || kept == 1 ? kept : -2);
            }
        }
    }

    private static void pasteIsRefused() {
        for (Supplier<RoadShut> state : states()) {
            for (int slot : NO_SLOTS) {
                for (int other : new int[] {0, 2, 4, -1}) {
                    Seen.stays(CHECK, "paste of SLOT " + slot, state, x -> x.paste(slot, -1, other, -1, -1), -2);
                    Seen.stays(CHECK, "paste to SLOT " + slot, state, x -> x.paste(other, 0, slot, 0, 0), -2);
                }
            }
            for (int other = 0; other < 4; other++) {
                int slot = other;
                for (int n : new int[] {-1, 0, 1, 61}) {
                    Seen.stays(CHECK, "paste of nothing", state, x -> x.paste(2, 0, slot, 0, n), -6);
                    Seen.stays(CHECK, "paste to nothing", state, x -> x.paste(slot, n, 2, 0, 0), -6);
                }
            }
        }
        for (int n : new int[] {Integer.MIN_VALUE, -1, 0, 1, 2, 3, Integer.MAX_VALUE}) {
            Seen.stays(CHECK, "paste of unlike ones, " + n, StaysTest::full, x -> x.paste(0, 0, 1, 0, n), -8);
            Seen.stays(CHECK, "paste of unlike ones from " + n, StaysTest::full, x -> x.paste(3, n, 0, 0, 1), -8);
            Seen.stays(CHECK, "paste of unlike ones to " + n, StaysTest::full, x -> x.paste(1, 0, 3, n, 1), -8);
        }
        for (int far : FAR) {
            Seen.stays(CHECK, "paste from " + far, StaysTest::full, x -> x.paste(1, far, 1, 0, 1), -7);
            Seen.stays(CHECK, "paste to " + far, StaysTest::full, x -> x.paste(1, 0, 1, far, 1), -7);
            Seen.stays(CHECK, "paste of " + far, StaysTest::full, x -> x.paste(1, 0, 1, 0, far), -7);
            Seen.stays(CHECK, "paste of " + far + " from 1 to 2", StaysTest::full, x -> x.paste(1, 1, 1, 2, far), -7);
        }
    }

    /** All places and lengths of small rows, within one and from one to another, held against a model. */
    private static void pasteByAModel() {
        for (int from = -1; from <= 4; from++) {
            for (int to = -1; to <= 4; to++) {
                for (int n = -1; n <= 4; n++) {
                    pasted(from, to, n, true);
                    pasted(from, to, n, false);
                }
            }
        }
        RoadShut x = Check.land("winter days 60 first 0 snow 0 clear 0;valley shut 0 room 0 wants;");
        x.row(0, 1, 60);
        x.row(1, 1, 60);
        x.write(0, 59, 1);
        CHECK.due("all sixty", x.paste(0, 0, 1, 0, 60), 0);
        CHECK.due("with the last", x.told(1), 1);
        CHECK.due("on DAY 60", x.shut(0), 60);
        CHECK.due("the last to the first", x.paste(0, 59, 1, 0, 1), 0);
        CHECK.due("told", x.told(1), 1);
        CHECK.due("on DAY 1", x.shut(0), 1);
        CHECK.due("sixty from the second on", x.paste(0, 1, 1, 0, 60), -7);
        CHECK.due("sixty to the second", x.paste(0, 0, 1, 1, 60), -7);
        CHECK.due("61", x.paste(0, 0, 1, 0, 61), -7);
        CHECK.due("one from 60 on", x.paste(0, 60, 1, 0, 1), -7);
        CHECK.due("none from 60 on", x.paste(0, 60, 1, 60, 0), 0);
    }

    private static void pasted(int from, int to, int n, boolean itself) {
        RoadShut x = Check.land("winter days 1 first 0 snow 0 clear 0;" + "valley shut 0 room 0 wants;".repeat(3));
        long[] source = {11, 12, 13};
        long[] target = itself ? source : new long[] {21, 22, 23};
        Check.row(x, 0, 1, source);
        Check.row(x, 1, 1, target);
        int other = itself ? 0 : 1;
        boolean within = from >= 0 && to >= 0 && n >= 0 && from + n <= 3 && to + n <= 3;
        CHECK.due("paste " + from + " " + to + " " + n, x.paste(0, from, other, to, n), within ? 0 : -7);
        long[] due = target.clone();
        for (int i = 0; within && i < n; i++) {
            due[to + i] = source[from + i];
        }
        for (int i = 0; i < 3; i++) {
            CHECK.due("number " + i, x.given(other, 1, 99999, i), due[i]);
            CHECK.due("number " + i + " of the other row", x.given(1 - other, 1, 99999, i), itself ? target[i] : source[i]);
        }
    }

    /** As many numbers as VALLEYS, each 0 .. 999. */
    private static void rowsThatAskAtTheirBounds() {
        for (int valleys = 1; valleys <= 6; valleys++) {
            String text = "winter days 2 first 100 snow 0 clear 0;thing price 1 harm 1 back 1;"
                + "valley shut 100 room 0 wants 9;".repeat(valleys);
            for (int n = 0; n <= 7; n++) {
                RoadShut x = Check.land(text);
                x.row(0, 1, n);
                boolean so = n == valleys;
                CHECK.due("given by " + n + " for " + valleys, x.given(0, 0, 9, 0), so ? 0 : -2);
                CHECK.due("asks by " + n, x.asks(0, 0, 9, 0, 0), so ? 1 : -2);
                CHECK.due("pays by " + n, x.pays(0, 0, 9, 0, 0), so ? 9000 : -2);
            }
            for (int place = 0; place < valleys; place++) {
                for (long number : new long[] {Long.MIN_VALUE, -1, 0, 1, 999, 1000, 65535, 65536, 1L << 32, Long.MAX_VALUE}) {
                    RoadShut x = Check.land(text);
                    x.row(0, 3, valleys);
                    x.write(0, place, number);
                    boolean so = number >= 0 && number <= 999;
                    CHECK.due("given by " + number, x.given(0, 1, 99999, place), so ? number : -2);
                    CHECK.due("given by " + number + ", to the first", x.given(0, 0, 0, 0), so ? 0 : -2);
                    CHECK.due("asks by " + number, x.asks(0, 1, 99999, place, 0), so ? 9 : -2);
                    CHECK.due("pays by " + number, x.pays(0, 1, 99999, place, 0), so ? 1000 * Math.max(0, 9 - number) : -2);
                }
            }
        }
    }

    /** -2 for an argument, then -6, then -2 for the row. */
    private static void whatIsNotSoInTurn() {
        RoadShut x = Check.land(LAND);
        x.row(1, 0, 1);
        for (int slot = 0; slot < 2; slot++) {
            int due = slot == 0 ? -6 : -2;
            CHECK.due("given", x.given(slot, 0, 9, 0), due);
            CHECK.due("asks", x.asks(slot, 0, 9, 0, 0), due);
            CHECK.due("pays", x.pays(slot, 0, 9, 0, 0), due);
            CHECK.due("given by RULE 2", x.given(slot, 2, 9, 0), -2);
            CHECK.due("given below 0", x.given(slot, 0, -1, 0), -2);
            CHECK.due("given of 100,000", x.given(slot, 0, 100000, 0), -2);
            CHECK.due("given to another", x.given(slot, 0, 9, 2), -2);
            CHECK.due("asks of another THING", x.asks(slot, 0, 9, 0, 1), -2);
            CHECK.due("pays of another THING", x.pays(slot, 0, 9, 0, 1), -2);
        }
        CHECK.due("no YEAR", x.judge(1, 0), -1);
        CHECK.due("no YEAR, no such VALLEY", x.judge(1, 2), -2);
        CHECK.due("no YEAR, no such SLOT", x.judge(4, 0), -2);
        CHECK.due("no YEAR, shut", x.shut(1), -1);
        CHECK.due("no YEAR, no such VALLEY, shut", x.shut(2), -2);
        CHECK.due("no YEAR, lacks", x.lacks(1, 0, 999, 2), -1);
        CHECK.due("no YEAR, no such THING, lacks", x.lacks(1, 1, 999, 2), -2);
        CHECK.due("no YEAR, too many sacks, lacks", x.lacks(1, 0, 1000, 2), -2);
        CHECK.due("no YEAR, no such what, lacks", x.lacks(1, 0, 999, 3), -2);
        CHECK.due("no YEAR, paid", x.paid(1, 0, 0), NOTHING);
        x.run(1);
        CHECK.due("of nothing, judge", x.judge(0, 0), -6);
        CHECK.due("of nothing, no such VALLEY, judge", x.judge(0, 2), -2);
        CHECK.due("of nothing, paid", x.paid(0, 0, 0), NOTHING);
    }

    private static void rowsThatSendAtTheirBounds() {
        for (int days : new int[] {1, 2, 59, 60}) {
            for (int many = 1; many <= 9; many += 4) {
                for (int shutOn : new int[] {0, 1, days / 2, days - 1, days}) {
                    sent(days, many, shutOn);
                }
            }
        }
    }

    private static void sent(int days, int many, int shutOn) {
        RoadShut x = Check.land("winter days " + days + " first 0 snow 0 clear 0;thing price 1 harm 2 back 3;valley shut 0 room 0 wants 0;"
            + "lorry many " + many + " carry 50 cost 999;");
        x.row(0, 0, days);
        if (shutOn > 0) {
            x.write(0, shutOn - 1, 1);
        }
        CHECK.due("told", x.told(0), shutOn > 0 ? 1 : 0);
        for (int n : new int[] {0, 1, days - 1, days, days + 1}) {
            if (n <= 60) {
                x.row(1, 3, n);
                CHECK.due("judge of " + n + " by " + days, x.judge(1, 0), n > days ? -2 : 0);
                CHECK.due("paid of " + n + " by " + days, x.paid(1, 0, 0), n > days ? NOTHING : 0);
            }
        }
        for (int day : new int[] {1, shutOn, shutOn + 1, days}) {
            for (long lorries : new long[] {Long.MIN_VALUE, -1, 0, 1, many, many + 1, 256, 1L << 32, Long.MAX_VALUE}) {
                if (day < 1 || day > days) {
                    continue;
                }
                x.row(1, 3, days);
                x.write(1, day - 1, lorries);
                boolean open = shutOn == 0 || day <= shutOn;
                boolean goes = lorries == 0 || open && lorries > 0 && lorries <= many;
                CHECK.due("judge of " + lorries + " on " + day, x.judge(1, 0), goes ? 0 : day);
                CHECK.due("paid of " + lorries + " on " + day, x.paid(1, 0, 0), goes ? 1000 * lorries * (999 + 50 + 150) : NOTHING);
            }
        }
    }
}
