/** Promises 1 to 5, and the tape's part of 46: how a LAND is told, and what is wrong with one that is not. */
public final class TapeTest {
    private static final Check CHECK = new Check();
    private static final String WINTER = "winter days 3 first 50 snow 60 clear 40;";

    public static void main(String[] args) {
        freshObject();
        feeding();
        ending();
        landsThatStand();
        landStaysWithAFault();
        placesOfFaults();
        faultsOfWinter();
        faultsOfThings();
        faultsOfValleys();
        faultsOfCarriers();
        faultsOfPaths();
        tooMany();
        CHECK.finish();
    }

    private static void freshObject() {
        RoadShut x = new RoadShut();
        for (int what = 0; what <= 7; what++) {
            CHECK.due("new, count " + what, x.count(what), 0);
        }
        CHECK.due("count(-1)", x.count(-1), -1);
        CHECK.due("count(8)", x.count(8), -1);
        CHECK.due("fault(0)", x.fault(0), 0);
        CHECK.due("fault(1)", x.fault(1), RoadShut.NONE);
        CHECK.due("fault(2)", x.fault(2), -1);
        CHECK.due("fault(-1)", x.fault(-1), -1);
        CHECK.due("NONE", RoadShut.NONE, -1);
        CHECK.due("run without LAND", x.run(1), -2);
    }

    private static void feeding() {
        RoadShut x = new RoadShut();
        for (int i = 1; i <= 80; i++) {
            CHECK.due("feed " + i, x.feed(0x20202020, 0x20202020, 0x20202020, 0x20202020, 0x20202020), 20 * i);
        }
        CHECK.due("feed 81", x.feed(0, 0, 0, 0, 0), -1);
        CHECK.due("count(5)", x.count(5), 1600);
        CHECK.due("end(1581)", x.end(1581), 1581);
        CHECK.due("feed beyond", x.feed(0, 0, 0, 0, 0), -1);
        CHECK.due("end(1580)", x.end(1580), 1580);
        CHECK.due("feed to the brim", x.feed(0x20202020, 0x20202020, 0x20202020, 0x20202020, 0x20202020), 1600);
        CHECK.due("blanks alone are a LAND of no LINES", x.land(), 0);
        CHECK.due("TAPE is empty then", x.count(5), 0);
        // the highest byte comes first: "mule" stands where winter should
        x.feed(0x206d756c, 0x65203120, 0x3b202020, 0x20202020, 0x20202020);
        CHECK.due("mule ahead of winter", x.land(), -4);
        CHECK.due("its fault", x.fault(0), 1);
        CHECK.due("its place", x.fault(1), 1);
    }

    private static void ending() {
        RoadShut x = new RoadShut();
        CHECK.due("end(0)", x.end(0), 0);
        CHECK.due("end(1)", x.end(1), -1);
        CHECK.due("end(-1)", x.end(-1), -1);
        x.feed(1, 2, 3, 4, 5);
        CHECK.due("end(21)", x.end(21), -1);
        CHECK.due("count(5)", x.count(5), 20);
        CHECK.due("end(20)", x.end(20), 20);
        CHECK.due("end(7)", x.end(7), 7);
        CHECK.due("end(8)", x.end(8), -1);
        CHECK.due("end(min)", x.end(Integer.MIN_VALUE), -1);
        CHECK.due("count(5) later", x.count(5), 7);
    }

    private static void stands(String text, int lines) {
        RoadShut x = new RoadShut();
        Check.tape(x, text);
        CHECK.due("land of " + text, x.land(), lines);
        CHECK.due("fault of " + text, x.fault(0), 0);
        CHECK.due("place of " + text, x.fault(1), -1);
        CHECK.due("lines of " + text, x.count(3), lines);
        CHECK.due("tape of " + text, x.count(5), 0);
    }

    private static void faulty(String text, int fault, int place) {
        RoadShut x = new RoadShut();
        Check.tape(x, text);
        CHECK.due("land of " + text, x.land(), -4);
        CHECK.due("fault of " + text, x.fault(0), fault);
        CHECK.due("place of " + text, x.fault(1), place);
        CHECK.due("lines of " + text, x.count(3), 0);
        CHECK.due("tape of " + text, x.count(5), text.length());
    }

    private static void faultyBehind(String text, int fault, int place) {
        faulty(WINTER + text, fault, WINTER.length() + place);
    }

    private static void landsThatStand() {
        stands("", 0);
        stands(" \n ", 0);
        stands(WINTER, 1);
        stands("winter days3first50snow60clear40;", 1);
        faulty("winterdays3first50snow60clear40;", 1, 0);
        stands("winter\ndays 003 first\n\n0 snow 100 clear 00100 ;\n", 1);
        stands("winter days 60 first 100 snow 0 clear 0;winter".substring(0, 40), 1);
        stands(WINTER + "thing price 99 harm 999 back 99;thing price 0 harm 0 back 0;", 3);
        stands(WINTER + "valley shut 100 room 999 wants;valley shut 0 room 0 wants;", 3);
        stands(WINTER + "valley shut 1 room 1 wants;thing price 1 harm 1 back 1;valley shut 1 room 1 wants 9;", 4);
        stands(WINTER + "lorry many 9 carry 50 cost 999;plane carry 50 cost 9999;mule 99;", 4);
        stands(WINTER + "mule 0;plane carry 1 cost 0;lorry many 1 carry 1 cost 0;", 4);
        stands(WINTER + "valley shut 1 room 1 wants;valley shut 1 room 1 wants;path 1 0 days 30;", 4);
        RoadShut x = Check.land(WINTER + "thing price 1 harm 2 back 3;valley shut 5 room 6 wants 7;"
            + "valley shut 5 room 6 wants 0;path 0 1 days 1;");
        CHECK.due("VALLEYS", x.count(0), 2);
        CHECK.due("THINGS", x.count(1), 1);
        CHECK.due("DAYS", x.count(2), 3);
        CHECK.due("LINES", x.count(3), 5);
        CHECK.due("PATHS", x.count(4), 1);
        CHECK.due("another in its place", Check.tell(x, "winter days 9 first 0 snow 0 clear 0;"), 1);
        CHECK.due("VALLEYS then", x.count(0), 0);
        CHECK.due("DAYS then", x.count(2), 9);
        CHECK.due("none in its place", x.land(), 0);
        CHECK.due("DAYS without", x.count(2), 0);
    }

    private static void landStaysWithAFault() {
        RoadShut x = Check.land(WINTER + "valley shut 100 room 1 wants;");
        x.run(3);
        CHECK.due("a YEAR", x.count(6), 1);
        CHECK.due("a bad one", Check.tell(x, "winter days 4 first 1 snow 1 clear 101;"), -4);
        CHECK.due("DAYS stay", x.count(2), 3);
        CHECK.due("YEAR stays", x.count(6), 1);
        CHECK.due("TAPE stays", x.count(5), 39);
        CHECK.due("fault", x.fault(0), 2);
        CHECK.due("place", x.fault(1), 35);
        CHECK.due("end mends it", x.end(0), 0);
        CHECK.due("fault stays", x.fault(0), 2);
        CHECK.due("land again", Check.tell(x, WINTER), 1);
        CHECK.due("no YEAR then", x.count(6), 0);
        CHECK.due("fault gone", x.fault(0), 0);
        CHECK.due("place gone", x.fault(1), -1);
    }

    private static void placesOfFaults() {
        faulty(";", 1, 0);
        faulty("  \n;", 1, 3);
        faulty("Winter", 1, 0);
        faulty("winters days", 1, 0);
        faulty("winterz days", 1, 0);
        faulty("winter{days", 1, 6);
        faulty("winter`days", 1, 6);
        faulty("minter days", 1, 0);
        faulty("winter days 3/", 1, 13);
        faulty("winter days 3:", 1, 13);
        faulty("winter", 1, 6);
        faulty("winter \n", 1, 8);
        faulty("winter days 3 first 50 snow 60 clear 40", 1, 39);
        faulty("winter days 3 first 50 snow 60 clear 40 ", 1, 40);
        faulty("winter days 3 first 50 snow 60 clear 40 ,", 1, 40);
        faulty("winter days 3 first 50 snow 60 clear 40 5;", 1, 40);
        faulty("winter\tdays 3", 1, 6);
        faulty("winter\rdays 3", 1, 6);
        faulty("winter days -3 first", 1, 12);
        faulty("winter days three first", 1, 12);
        faulty("winter 3 days", 1, 7);
        faulty("winter days 3 first 50 snow 60 clear 40;;", 1, 40);
        faulty("winter days 3 first 50 snow 60 clear 40;\n;", 1, 41);
        faulty("\u00e9", 1, 0);
        faulty("winter days 3\u0000", 1, 13);
        faultyBehind("snow 4;", 1, 0);
        faultyBehind("7", 1, 0);
        faultyBehind(" mule 4;winter days 3 first 50 snow 60 clear 40;", 1, 8);
        faultyBehind("winter days 3 first 50 snow 60 clear 40;", 1, 0);
        faulty("thing price 1 harm 1 back 1;", 1, 0);
    }

    private static void faultsOfWinter() {
        faulty("winter days 0 first 1 snow 1 clear 1;", 2, 12);
        faulty("winter days 61 first 1 snow 1 clear 1;", 2, 12);
        faulty("winter days 4294967299 first 1 snow 1 clear 1;", 2, 12);
        faulty("winter days 99999999999999999999999999 first 1", 2, 12);
        faulty("winter days 3 first 101 snow 1 clear 1;", 2, 20);
        faulty("winter days 3 first 1 snow 101 clear 1;", 2, 27);
        faulty("winter days 3 first 1 snow 1 clear 101;", 2, 35);
        faulty("winter days 61 frist 1", 2, 12);
        faulty("winter days 60 frist 1", 1, 15);
    }

    private static void faultsOfThings() {
        faultyBehind("thing price 100 harm 1 back 1;", 2, 12);
        faultyBehind("thing price 1 harm 1000 back 1;", 2, 19);
        faultyBehind("thing price 1 harm 1 back 100;", 2, 26);
        faultyBehind("thing harm 1 price 1 back 1;", 1, 6);
        faultyBehind("thing price 1 harm 1;", 1, 20);
    }

    private static void faultsOfValleys() {
        faultyBehind("valley shut 101 room 1 wants;", 2, 12);
        faultyBehind("valley shut 1 room 1000 wants;", 2, 19);
        faultyBehind("valley shut 1 room 1 wants 1;", 1, 27);
        faultyBehind("valley shut 1 room 1;", 1, 20);
        String thing = "thing price 1 harm 1 back 1;";
        faultyBehind(thing + "valley shut 1 room 1 wants;", 1, thing.length() + 26);
        faultyBehind(thing + "valley shut 1 room 1 wants 10;", 2, thing.length() + 27);
        faultyBehind(thing + "valley shut 1 room 1 wants 1 1;", 1, thing.length() + 29);
    }

    private static void faultsOfCarriers() {
        faultyBehind("lorry many 0 carry 1 cost 1;", 2, 11);
        faultyBehind("lorry many 10 carry 1 cost 1;", 2, 11);
        faultyBehind("lorry many 1 carry 0 cost 1;", 2, 19);
        faultyBehind("lorry many 1 carry 51 cost 1;", 2, 19);
        faultyBehind("lorry many 1 carry 1 cost 1000;", 2, 26);
        faultyBehind("plane carry 0 cost 1;", 2, 12);
        faultyBehind("plane carry 51 cost 1;", 2, 12);
        faultyBehind("plane carry 1 cost 10000;", 2, 19);
        faultyBehind("mule 100;", 2, 5);
        faultyBehind("mule;", 1, 4);
        faultyBehind("lorry many 1 carry 1 cost 1;lorry", 2, 28);
        faultyBehind("plane carry 1 cost 1;plane x", 2, 21);
        faultyBehind("mule 1; mule 2;", 2, 8);
    }

    private static void faultsOfPaths() {
        String three = "valley shut 1 room 1 wants;valley shut 1 room 1 wants;valley shut 1 room 1 wants;";
        int at = three.length();
        faultyBehind("path 0 1 days 1;", 2, 5);
        faultyBehind(three + "path 3 1 days 1;", 2, at + 5);
        faultyBehind(three + "path 0 3 days 1;", 2, at + 7);
        faultyBehind(three + "path 2 2 days 1;", 2, at + 7);
        faultyBehind(three + "path 0 1 days 0;", 2, at + 14);
        faultyBehind(three + "path 0 1 days 31;", 2, at + 14);
        faultyBehind(three + "path 0 days 1;", 1, at + 7);
        faultyBehind(three + "path 0 1 2;", 1, at + 9);
        faultyBehind(three + "path 0 1 days 1;path 0 1 days 1;", 2, at + 23);
        faultyBehind(three + "path 0 1 days 1;path 1 0 days 1;", 2, at + 23);
        stands(WINTER + three + "path 0 1 days 1;path 1 2 days 30;path 2 0 days 7;", 7);
    }

    private static void tooMany() {
        String thing = "thing price 1 harm 1 back 1;";
        faultyBehind(thing + thing + thing + thing, 3, 3 * thing.length());
        faultyBehind(thing + thing + thing + "thing x", 3, 3 * thing.length());
        String valley = "valley shut 1 room 1 wants;";
        String six = valley.repeat(6);
        stands(WINTER + six, 7);
        faultyBehind(six + valley, 3, six.length());
        String eight = six + "path 0 1 days 1;path 0 2 days 1;path 0 3 days 1;path 0 4 days 1;"
            + "path 0 5 days 1;path 1 2 days 1;path 1 3 days 1;path 1 4 days 1;";
        stands(WINTER + eight, 15);
        faultyBehind(eight + "path 1 5 days 1;", 3, eight.length());
        faultyBehind(eight + "path 0 1 days 1;", 3, eight.length());
    }
}
