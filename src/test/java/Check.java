/** What the tests share: a count of wrong answers, and a way to tell a LAND as a text. */
final class Check {
    private int asked;
    private int wrong;

    void due(String call, long got, long want) {
        asked++;
        if (got != want) {
            wrong++;
            if (wrong <= 40) {
                System.out.println(call + " answered " + got + ", due is " + want);
            }
        }
    }

    void holds(String what, boolean so) {
        due(what, so ? 1 : 0, 1);
    }

    /** Ends the test: exit code 1 if there was a wrong answer, or if nothing was asked at all. */
    void finish() {
        if (wrong > 0 || asked == 0) {
            System.out.println(wrong + " of " + asked + " answers are wrong");
            System.exit(1);
        }
        System.out.println(asked + " answers are as due");
    }

    /** Puts a text behind the (empty) TAPE: answers how many bytes it has then. */
    static int tape(RoadShut x, String text) {
        int before = x.count(5);
        int[] five = new int[5];
        for (int i = 0; i < text.length(); i += 20) {
            for (int j = 0; j < 5; j++) {
                five[j] = 0;
                for (int b = 0; b < 4; b++) {
                    int place = i + 4 * j + b;
                    int sign = place < text.length() ? text.charAt(place) & 255 : ' ';
                    five[j] = five[j] << 8 | sign;
                }
            }
            x.feed(five[0], five[1], five[2], five[3], five[4]);
        }
        return x.end(before + text.length());
    }

    static int tell(RoadShut x, String text) {
        tape(x, text);
        return x.land();
    }

    static RoadShut land(String text) {
        RoadShut x = new RoadShut();
        int lines = tell(x, text);
        if (lines < 0) {
            System.out.println("not a LAND (fault " + x.fault(0) + " at " + x.fault(1) + "): " + text);
            System.exit(1);
        }
        return x;
    }

    static void row(RoadShut x, int slot, int width, long... numbers) {
        x.row(slot, width, numbers.length);
        for (int i = 0; i < numbers.length; i++) {
            x.write(slot, i, numbers[i]);
        }
    }
}
