import java.util.function.IntFunction;

/**
 * What the document says of bounds in a LAND (I) and of the TAPE (promises 1 to 5): for each number of each LINE, for each
 * count of LINES, for each byte and for the TAPE's length the last that is taken and the first that is refused.
 */
public final class BoundsTest {
    private static final Check CHECK = new Check();
    private static final String WINTER = "winter days 3 first 50 snow 60 clear 40;";
    private static final String THING = "thing price 1 harm 2 back 3;";
    private static final String TWO = "valley shut 1 room 1 wants;valley shut 1 room 1 wants;";

    public static void main(String[] args) {
        numbersOfWinter();
        numbersOfThings();
        numbersOfValleys();
        numbersOfCarriers();
        numbersOfPaths();
        asManyWantsAsThings();
        threeThings();
        sixValleys();
        eightPaths();
        onePathForTwo();
        onceOnly();
        withoutThem();
        everyByte();
        longestTokens();
        firstByPlace();
        placeOfTheEnd();
        emptyTape();
        fullTape();
        feedAtTheBrim();
        bytesOfFeed();
        endAtItsBounds();
        faultAtItsBounds();
        faultOfTheLatest();
        CHECK.finish();
    }

    private static void stands(String text, int lines) {
        RoadShut x = new RoadShut();
        Check.tape(x, text);
        CHECK.due("land of " + text, x.land(), lines);
        CHECK.due("fault of " + text, x.fault(0), 0);
        CHECK.due("place of " + text, x.fault(1), -1);
        CHECK.due("lines of " + text, x.count(3), lines);
        CHECK.due("tape of " + text, x.count(5), 0);
    }

    private static void faulty(String text, int fault, int place) {
        RoadShut x = new RoadShut();
        Check.tape(x, text);
        CHECK.due("land of " + text, x.land(), -4);
        CHECK.due("fault of " + text, x.fault(0), fault);
        CHECK.due("place of " + text, x.fault(1), place);
        CHECK.due("lines of " + text, x.count(3), 0);
        CHECK.due("tape of " + text, x.count(5), text.length());
    }

    private static int linesOf(String text) {
        return (int) text.chars().filter(c -> c == ';').count();
    }

    /** One number of a text, by its bounds: those stand, the next ones do not, nor do those that only wrap around into them. */
    private static void bounds(String before, int least, int most, String behind) {
        int lines = linesOf(before + behind);
        int place = before.length();
        for (String taken : new String[] {"" + least, "" + most, "000" + least, "0000000000000000000" + most}) {
            stands(before + taken + behind, lines);
        }
        if (least > 0) {
            faulty(before + (least - 1) + behind, 2, place);
        }
        String[] refused = {"" + (most + 1), "" + (most + 10), "100000", "2147483647", "2147483648", "" + ((1L << 32) + least),
            "" + ((1L << 32) + most), "9223372036854775808", new java.math.BigInteger("18446744073709551616").add(
                java.math.BigInteger.valueOf(most)).toString(), "1" + "0".repeat(60)};
        for (String number : refused) {
            faulty(before + number + behind, 2, place);
        }
        faulty(before + "-1" + behind, 1, place);
        faulty(before + behind, 1, place + leadingBlanks(behind));
        faulty(before + least + " " + least + behind, 1, place + (least + " ").length());
        faulty(before + "x" + behind, 1, place);
        faulty(before, 1, place);
        faulty(before + (most + 1), 2, place);
        faulty(before + most, 1, place + ("" + most).length());
    }

    private static int leadingBlanks(String text) {
        return text.startsWith(" ") ? 1 : 0;
    }

    private static void numbersOfWinter() {
        bounds("winter days ", 1, 60, " first 50 snow 60 clear 40;");
        bounds("winter days 3 first ", 0, 100, " snow 60 clear 40;");
        bounds("winter days 3 first 50 snow ", 0, 100, " clear 40;");
        bounds("winter days 3 first 50 snow 60 clear ", 0, 100, ";");
    }

    private static void numbersOfThings() {
        bounds(WINTER + "thing price ", 0, 99, " harm 2 back 3;");
        bounds(WINTER + "thing price 1 harm ", 0, 999, " back 3;");
        bounds(WINTER + "thing price 1 harm 2 back ", 0, 99, ";");
        bounds(WINTER + THING + THING + "thing price 1 harm 2 back ", 0, 99, ";");
    }

    private static void numbersOfValleys() {
        bounds(WINTER + "valley shut ", 0, 100, " room 1 wants;");
        bounds(WINTER + "valley shut 1 room ", 0, 999, " wants;");
        bounds(WINTER + THING + "valley shut 1 room 1 wants ", 0, 9, ";");
        bounds(WINTER + THING + THING + "valley shut 1 room 1 wants 5 ", 0, 9, ";");
        bounds(WINTER + THING + THING + THING + "valley shut 1 room 1 wants 5 5 ", 0, 9, ";");
    }

    private static void numbersOfCarriers() {
        bounds(WINTER + "lorry many ", 1, 9, " carry 1 cost 1;");
        bounds(WINTER + "lorry many 1 carry ", 1, 50, " cost 1;");
        bounds(WINTER + "lorry many 1 carry 1 cost ", 0, 999, ";");
        bounds(WINTER + "plane carry ", 1, 50, " cost 1;");
        bounds(WINTER + "plane carry 1 cost ", 0, 9999, ";");
        bounds(WINTER + "mule ", 0, 99, ";");
    }

    private static void numbersOfPaths() {
        bounds(WINTER + TWO + "path 0 1 days ", 1, 30, ";");
        String six = WINTER + TWO + TWO + TWO;
        for (int one = 0; one <= 7; one++) {
            for (int other = 0; other <= 7; other++) {
                String text = six + "path " + one + " " + other + " days 1;";
                if (one > 5) {
                    faulty(text, 2, six.length() + 5);
                } else if (other > 5 || other == one) {
                    faulty(text, 2, six.length() + 7);
                } else {
                    stands(text, 8);
                }
            }
        }
        faulty(six + "path 4294967296 1 days 1;", 2, six.length() + 5);
        faulty(six + "path 0 4294967297 days 1;", 2, six.length() + 7);
        faulty(WINTER + "path 0 1 days 1;", 2, WINTER.length() + 5);
        String one = WINTER + "valley shut 1 room 1 wants;";
        faulty(one + "path 0 1 days 1;valley shut 1 room 1 wants;", 2, one.length() + 7);
        faulty(one + "path 1 0 days 1;valley shut 1 room 1 wants;", 2, one.length() + 5);
        faulty(one + "path 0 00 days 1;", 2, one.length() + 7);
        stands(one + "valley shut 1 room 1 wants;path 00 001 days 1;", 4);
    }

    private static void asManyWantsAsThings() {
        for (int things = 0; things <= 3; things++) {
            String before = WINTER + THING.repeat(things) + "valley shut 1 room 1 wants";
            for (int wants = 0; wants <= 4; wants++) {
                String text = before + " 4".repeat(wants) + ";" + THING;
                if (wants > things) {
                    faulty(text, 1, before.length() + 2 * things + 1);
                } else if (wants < things) {
                    faulty(text, 1, before.length() + 2 * wants);
                } else if (things == 3) {
                    faulty(text, 3, before.length() + 2 * things + 1);
                } else {
                    stands(text, 3 + things);
                    RoadShut x = Check.land(text);
                    for (int thing = 0; thing <= things; thing++) {
                        CHECK.due("wants of THING " + thing + " of " + things, x.wants(0, thing, 1), thing < things ? 8 : 0);
                    }
                    CHECK.due("no other THING", x.wants(0, things + 1, 1), -2);
                }
            }
        }
    }

    private static void counted(IntFunction<String> line, int most, int what, String before) {
        StringBuilder text = new StringBuilder(before);
        for (int i = 0; i < most; i++) {
            text.append(line.apply(i));
            stands(text.toString(), linesOf(text.toString()));
            CHECK.due("count of " + text, Check.land(text.toString()).count(what), i + 1);
        }
        int place = text.length();
        faulty(text + line.apply(most), 3, place);
        faulty(text + line.apply(most).split(" ")[0], 3, place);
        faulty(text + line.apply(most).split(" ")[0] + " ?", 3, place);
        faulty(text + "\n\n" + line.apply(most), 3, place + 2);
        stands(text + "mule 1;", linesOf(text.toString()) + 1);
    }

    private static void threeThings() {
        counted(i -> "thing price " + i + " harm 1 back 1;", 3, 1, WINTER);
    }

    private static void sixValleys() {
        counted(i -> "valley shut " + i + " room 1 wants;", 6, 0, WINTER);
        counted(i -> "valley shut " + i + " room 1 wants 9;", 6, 0, WINTER + THING);
    }

    private static void eightPaths() {
        int[][] two = {{0, 1}, {2, 0}, {0, 3}, {4, 0}, {0, 5}, {1, 2}, {3, 1}, {1, 4}, {1, 5}};
        counted(i -> "path " + two[i][0] + " " + two[i][1] + " days 30;", 8, 4, WINTER + TWO + TWO + TWO);
        // the ninth is refused at its word, though its V are told already, or none
        String eight = WINTER + TWO + TWO + TWO + "path 0 1 days 1;path 0 2 days 1;path 0 3 days 1;path 0 4 days 1;path 0 5 days 1;"
            + "path 1 2 days 1;path 1 3 days 1;path 1 4 days 1;";
        faulty(eight + "path 1 0 days 1;", 3, eight.length());
        faulty(eight + "path 9 9 days 1;", 3, eight.length());
    }

    private static void onePathForTwo() {
        String told = WINTER + TWO + TWO + TWO + "path 4 5 days 1;";
        faulty(told + "path 4 5 days 1;", 2, told.length() + 7);
        faulty(told + "path 5 4 days 1;", 2, told.length() + 7);
        faulty(told + "path 5 4 days 31;", 2, told.length() + 7);
        faulty(told + "path 5 4 ?", 2, told.length() + 7);
        faulty(told + "path 5 004;", 2, told.length() + 7);
        stands(told + "path 4 3 days 1;path 5 3 days 1;", 10);
    }

    private static void onceOnly() {
        String[] lines = {"lorry many 1 carry 1 cost 1;", "plane carry 1 cost 1;", "mule 1;"};
        for (String line : lines) {
            String text = WINTER + line;
            stands(text, 2);
            faulty(text + line, 2, text.length());
            faulty(text + line.split(" ")[0], 2, text.length());
            faulty(text + " " + line.split(" ")[0] + " ;", 2, text.length() + 1);
            faulty(text + THING + line, 2, text.length() + THING.length());
            for (String other : lines) {
                if (!other.equals(line)) {
                    stands(text + other, 3);
                }
            }
            // what was told of a LAND that was refused, or of another one, is not told of this one
            RoadShut x = new RoadShut();
            Check.tape(x, text + "?");
            CHECK.due("refused", x.land(), -4);
            CHECK.due("mended", x.end(text.length()), text.length());
            CHECK.due("told once", x.land(), 2);
            CHECK.due("told in another LAND", Check.tell(x, text), 2);
        }
    }

    /** many 1 carry 10 cost 0, no plane, mule 0 without. */
    private static void withoutThem() {
        String start = "winter days 4 first 100 snow 50 clear 50;thing price 1 harm 9 back 1;valley shut 50 room 9 wants 7;"
            + "valley shut 40 room 9 wants 5;";
        RoadShut without = Check.land(start);
        RoadShut with = Check.land(start + "lorry many 1 carry 10 cost 0;mule 0;");
        RoadShut other = Check.land(start + "lorry many 2 carry 9 cost 1;mule 1;plane carry 9 cost 1;");
        CHECK.due("a lorry without", without.late(0, 0), with.late(0, 0));
        CHECK.due("signs without", without.signs(0, 0), with.signs(0, 0));
        CHECK.due("a mule without", without.fork(0, 1, 0, 9), with.fork(0, 1, 0, 9));
        CHECK.due("no plane", without.edge(0), -1);
        CHECK.due("flown without", without.flown(0, 0, 3), without.cost(0, 0, 3));
        CHECK.holds("lorries are seen", without.late(0, 0) != other.late(0, 0));
        CHECK.holds("a mule is seen", without.fork(0, 1, 0, 9) != other.fork(0, 1, 0, 9));
        CHECK.holds("a plane is seen", other.flown(0, 0, 3) != other.cost(0, 0, 3) && other.edge(0) == 1);
        Check.row(without, 0, 0, 1, 1, 1, 1);
        Check.row(without, 1, 0, 0, 2);
        without.row(2, 0, 0);
        CHECK.due("a clear YEAR", without.told(2), 0);
        CHECK.due("one lorry goes", without.judge(0, 0), 0);
        CHECK.due("two do not", without.judge(1, 0), 2);
        CHECK.due("ten in each, at no cost but the price", without.paid(0, 0, 0), 1000 * (40 + 40));
        // what one LAND had, the next one has not
        Check.tell(other, start);
        CHECK.due("late again", other.late(0, 0), without.late(0, 0));
        CHECK.due("no plane again", other.edge(0), -1);
        CHECK.due("no mule again", other.fork(0, 1, 0, 9), without.fork(0, 1, 0, 9));
    }

    private static void everyByte() {
        for (int sign = 0; sign < 256; sign++) {
            boolean blank = sign == 32 || sign == 10;
            char c = (char) sign;
            String inside = "winter" + c + "days 3 first 50 snow 60 clear 40;";
            boolean word = c >= 'a' && c <= 'z';
            if (blank) {
                stands(c + WINTER, 1);
                stands(inside, 1);
                stands(WINTER + c, 1);
                stands("" + c, 0);
            } else {
                faulty(c + WINTER, 1, 0);
                faulty(inside, 1, word ? 0 : 6);
                faulty(WINTER + c, 1, WINTER.length());
                faulty("" + c, 1, 0);
            }
            boolean digit = c >= '0' && c <= '9';
            String number = "winter days 3" + c + " first 50 snow 60 clear 40;";
            if (blank || digit) {
                stands(number, 1);
            } else {
                faulty(number, 1, 13);
            }
        }
    }

    private static void longestTokens() {
        stands("winter days 3first 50snow 60clear 40;", 1);
        stands("winter days3 first50 snow60 clear40 ;", 1);
        faulty("winterdays 3 first 50 snow 60 clear 40;", 1, 0);
        faulty("win ter days 3 first 50 snow 60 clear 40;", 1, 0);
        faulty("winter day s 3 first 50 snow 60 clear 40;", 1, 7);
        faulty("winter days 3 first 5 0 snow 60 clear 40;", 1, 22);
        stands("winter days 0000000000000000000000000000000000000000000000000000000000003 first 50 snow 60 clear 40;", 1);
        faulty(WINTER + "thing price 1harm 2back 3;things", 1, WINTER.length() + 26);
        stands(WINTER + "mule 1;lorry many 1carry 1cost 1;", 3);
        faulty(WINTER + "mules 1;", 1, WINTER.length());
        faulty(WINTER + "mul 1;", 1, WINTER.length());
        stands(WINTER + THING + THING + "valley shut 1 room 1 wants 3 4;", 4);
        faulty(WINTER + THING + THING + "valley shut 1 room 1 wants 34;", 2, WINTER.length() + 2 * THING.length() + 27);
    }

    /** The first by its place, of one place the least. */
    private static void firstByPlace() {
        faulty("winter days 61 first 101 snow ?;", 2, 12);
        faulty("winter days 60 first 101 snow ?;", 2, 21);
        faulty("winter days 60 first 100 snow ?;", 1, 30);
        faulty("? winter days 61", 1, 0);
        faulty("thing price 100", 1, 0);
        faulty("mule 1;mule 1;", 1, 0);
        faulty(WINTER + "winter days 61", 1, WINTER.length());
        faulty(WINTER + "mule 1;winter", 1, WINTER.length() + 7);
        faulty(WINTER + "mule 100;mule", 2, WINTER.length() + 5);
        String full = WINTER + THING + THING + THING;
        faulty(full + "thing price 100", 3, full.length());
        faulty(full + "mule 100;thing", 2, full.length() + 5);
        faulty(full + "mule 1;thing", 3, full.length() + 7);
        faulty(full + "mule 1 thing", 1, full.length() + 7);
    }

    private static void placeOfTheEnd() {
        String text = WINTER + THING + "valley shut 1 room 1 wants 3;lorry many 1 carry 2 cost 3;plane carry 1 cost 2;mule 1;"
            + "valley shut 1 room 1 wants 3;path 0 1 days 3;";
        for (int n = 0; n <= text.length(); n++) {
            String head = text.substring(0, n);
            if (head.isEmpty() || head.endsWith(";")) {
                stands(head, linesOf(head));
                continue;
            }
            RoadShut x = new RoadShut();
            Check.tape(x, head + "  ");
            CHECK.due("land of a piece", x.land(), -4);
            CHECK.due("1: the end, or a word that is but half there", x.fault(0), 1);
            boolean halfWord = Character.isLetter(head.charAt(n - 1)) && Character.isLetter(text.charAt(n));
            int begin = n;
            while (begin > 0 && Character.isLetter(head.charAt(begin - 1))) {
                begin--;
            }
            CHECK.due("its place in " + head, x.fault(1), halfWord ? begin : n + 2);
            CHECK.due("all stays", x.count(5), n + 2);
        }
    }

    private static void emptyTape() {
        RoadShut x = new RoadShut();
        CHECK.due("an empty TAPE is a LAND of no LINES", x.land(), 0);
        CHECK.due("without FAULT", x.fault(0), 0);
        CHECK.due("without place", x.fault(1), -1);
        for (int what = 0; what <= 7; what++) {
            CHECK.due("count " + what + " of it", x.count(what), 0);
        }
        Check.tell(x, WINTER + TWO);
        x.run(5);
        CHECK.due("in place of another", x.land(), 0);
        for (int what = 0; what <= 7; what++) {
            CHECK.due("count " + what + " then", x.count(what), 0);
        }
        CHECK.due("no YEAR is drawn without", x.run(5), -2);
        CHECK.due("no VALLEY", x.shut(0), -2);
        Check.tape(x, "?");
        CHECK.due("end(0)", x.end(0), 0);
        CHECK.due("cut to nothing", x.land(), 0);
    }

    private static String filled(String text, int length) {
        return text + " ".repeat(length - text.length());
    }

    private static void fullTape() {
        String text = WINTER + THING + TWO.replace("wants", "wants 1") + "path 0 1 days 3;";
        stands(filled(text, 1600), 5);
        stands(" ".repeat(1600 - text.length()) + text, 5);
        stands(" ".repeat(1600), 0);
        faulty(" ".repeat(1600 - text.length()) + text.substring(0, text.length() - 1) + "!", 1, 1599);
        faulty(filled(text.substring(0, text.length() - 1), 1600), 1, 1600);
        faulty("a".repeat(1600), 1, 0);
        faulty("9".repeat(1600), 1, 0);
        faulty("winter days " + "9".repeat(1588), 2, 12);
        faulty("winter days " + "0".repeat(1588), 2, 12);
        faulty("winter days " + "0".repeat(1587) + "1", 1, 1600);
        faulty(";".repeat(1600), 1, 0);
        // as many LINES as there may be: 1 winter, 3 things, 6 valleys, lorry, plane, mule, 8 paths
        stands(filled(WINTER + "thing price 99 harm 999 back 99;".repeat(3) + "valley shut 100 room 999 wants 9 9 9;".repeat(6)
            + "lorry many 9 carry 50 cost 999;plane carry 50 cost 9999;mule 99;path 0 1 days 30;path 0 2 days 30;path 0 3 days 30;"
            + "path 0 4 days 30;path 0 5 days 30;path 1 2 days 30;path 1 3 days 30;path 1 4 days 30;", 1600), 21);
    }

    private static void feedAtTheBrim() {
        for (int start = 1560; start <= 1600; start++) {
            RoadShut x = new RoadShut();
            Check.tape(x, " ".repeat(start));
            CHECK.due("bytes", x.count(5), start);
            int blanks = 0x20202020;
            int due = start <= 1580 ? start + 20 : -1;
            CHECK.due("feed behind " + start, x.feed(blanks, blanks, blanks, blanks, blanks), due);
            CHECK.due("bytes then", x.count(5), due == -1 ? start : due);
            // none came: those that are there are blanks yet, those behind them are not there
            CHECK.due("feed once more", due == 1600 || due == -1 ? x.feed(1, 1, 1, 1, 1) : -1, -1);
            CHECK.due("blanks alone", x.land(), 0);
            CHECK.due("the TAPE is empty", x.count(5), 0);
            CHECK.due("and takes again", x.feed(blanks, blanks, blanks, blanks, blanks), 20);
        }
    }

    /** Four of each number, the highest first: a byte that is none is found where it was put. */
    private static void bytesOfFeed() {
        for (int place = 0; place < 20; place++) {
            for (int sign : new int[] {0, 1, 0x3b, 0x61, 0x7f, 0x80, 0xff}) {
                int[] five = new int[5];
                for (int i = 0; i < 20; i++) {
                    five[i / 4] = five[i / 4] << 8 | (i == place ? sign : 32);
                }
                RoadShut x = new RoadShut();
                CHECK.due("feed", x.feed(five[0], five[1], five[2], five[3], five[4]), 20);
                CHECK.due("a byte " + sign + " at " + place, x.land(), -4);
                CHECK.due("its fault", x.fault(0), 1);
                CHECK.due("its place", x.fault(1), place);
                CHECK.due("cut ahead of it", x.end(place), place);
                CHECK.due("nothing is left", x.land(), 0);
            }
        }
        RoadShut x = new RoadShut();
        CHECK.due("the least numbers", x.feed(Integer.MIN_VALUE, Integer.MIN_VALUE, -1, -1, Integer.MAX_VALUE), 20);
        CHECK.due("are bytes, too", x.land(), -4);
        CHECK.due("128 is none", x.fault(1), 0);
    }

    private static void endAtItsBounds() {
        for (int many : new int[] {0, 1, 19, 20, 21, 1599, 1600}) {
            for (int n : new int[] {Integer.MIN_VALUE, -1600, -1, 0, 1, many - 1, many, many + 1, 1600, 1601, Integer.MAX_VALUE}) {
                RoadShut x = new RoadShut();
                Check.tape(x, " ".repeat(many));
                boolean has = n >= 0 && n <= many;
                CHECK.due("end(" + n + ") of " + many, x.end(n), has ? n : -1);
                CHECK.due("bytes then", x.count(5), has ? n : many);
                CHECK.due("it has so many", x.end(has ? n : many), has ? n : many);
                CHECK.due("and no more", x.end((has ? n : many) + 1), -1);
            }
        }
        // its first n bytes alone: what stood behind them is gone, also when more come
        RoadShut x = new RoadShut();
        Check.tape(x, WINTER + "?????");
        CHECK.due("cut", x.end(WINTER.length()), WINTER.length());
        Check.tape(x, "mule 1;");
        CHECK.due("more behind the cut", x.land(), 2);
    }

    private static void faultAtItsBounds() {
        int[] others = {Integer.MIN_VALUE, -2, -1, 2, 3, Integer.MAX_VALUE};
        RoadShut x = new RoadShut();
        CHECK.due("ahead of any", x.fault(0), 0);
        CHECK.due("ahead of any, place", x.fault(1), -1);
        for (int other : others) {
            CHECK.due("ahead of any, what " + other, x.fault(other), -1);
        }
        Check.tell(x, "winter days 0");
        CHECK.due("what 0", x.fault(0), 2);
        CHECK.due("what 1", x.fault(1), 12);
        for (int other : others) {
            CHECK.due("with a FAULT, what " + other, x.fault(other), -1);
        }
        x.end(0);
        Check.tell(x, WINTER);
        CHECK.due("without", x.fault(0), 0);
        CHECK.due("without, place", x.fault(1), -1);
        for (int other : others) {
            CHECK.due("without, what " + other, x.fault(other), -1);
        }
    }

    /** Of the latest land(): no other call makes or mends a FAULT. */
    private static void faultOfTheLatest() {
        RoadShut x = new RoadShut();
        Check.tell(x, "  mule");
        CHECK.due("fault", x.fault(0) * 100 + x.fault(1), 102);
        x.keep(0);
        x.end(0);
        x.feed(1, 2, 3, 4, 5);
        x.back(0);
        x.back(1);
        x.run(-1);
        x.row(9, 9, 9);
        CHECK.due("fault yet", x.fault(0) * 100 + x.fault(1), 102);
        CHECK.due("another", x.land(), -4);
        CHECK.due("fault of the latest", x.fault(0) * 100 + x.fault(1), 100);
        x.end(0);
        CHECK.due("none", x.land(), 0);
        CHECK.due("no fault", x.fault(0), 0);
        CHECK.due("no place", x.fault(1), -1);
        x.back(0);
        CHECK.due("no fault by an image", x.fault(0), 0);
    }
}
