import java.util.ArrayList;
import java.util.Arrays;
import java.util.List;
import java.util.Random;
import java.util.regex.Matcher;
import java.util.regex.Pattern;

/** Promises 4 and 5 on texts that were spoilt at random, held against a second reading of I by patterns of TOKENS. */
public final class FaultTest {
    private static final Check CHECK = new Check();
    private static final Pattern TOKEN = Pattern.compile("[a-z]+|[0-9]+|[^ \n]", Pattern.DOTALL);

    private static int fault;
    private static int place;
    private static int lines;

    public static void main(String[] args) {
        int texts = args.length > 0 ? Integer.parseInt(args[0]) : 20000;
        int stood = 0;
        for (int seed = 1; seed <= texts; seed++) {
            Random random = new Random(seed);
            String text = spoilt(Oracle.drawn(random).text, random);
            if (text.length() > 1600) {
                continue;
            }
            read(text);
            RoadShut x = new RoadShut();
            Check.tape(x, text);
            CHECK.due("land of " + text, x.land(), fault == 0 ? lines : -4);
            CHECK.due("fault of " + text, x.fault(0), fault);
            CHECK.due("place of " + text, x.fault(1), place);
            CHECK.due("tape of " + text, x.count(5), fault == 0 ? 0 : text.length());
            stood += fault == 0 ? 1 : 0;
        }
        CHECK.holds("some texts stood, some did not", stood > texts / 50 && stood < texts);
        CHECK.finish();
    }

    private static String spoilt(String text, Random random) {
        String answer = text;
        int times = random.nextInt(3);
        for (int i = 0; i < times; i++) {
            answer = spoiltOnce(answer, random);
        }
        return answer;
    }

    private static String spoiltOnce(String text, Random random) {
        List<int[]> tokens = new ArrayList<>();
        Matcher matcher = TOKEN.matcher(text);
        while (matcher.find()) {
            tokens.add(new int[] {matcher.start(), matcher.end()});
        }
        int[] some = tokens.isEmpty() ? new int[] {0, 0} : tokens.get(random.nextInt(tokens.size()));
        int[] other = tokens.isEmpty() ? new int[] {0, 0} : tokens.get(random.nextInt(tokens.size()));
        String before = text.substring(0, some[0]);
        String behind = text.substring(some[1]);
        String[] words = {"winter", "thing", "valley", "lorry", "plane", "mule", "path", "days", "wants", ";", "x", "0", "7", "1000",
            "path 0 1 days 3;", "path 1 0 days 3;", "mule 3;", "lorry many 1 carry 1 cost 1;", "thing price 1 harm 1 back 1;",
            "valley shut 5 room 5 wants 1;", "valley shut 5 room 5 wants;", "plane carry 9 cost 9;", "\t", "-", "\u00ff", "A", ""};
        switch (random.nextInt(6)) {
            case 0:
                return before + words[random.nextInt(words.length)] + behind;
            case 1:
                return before + " " + words[random.nextInt(words.length)] + " " + text.substring(some[0]);
            case 2:
                return before + text.substring(other[0], other[1]) + behind;
            case 3:
                return before + random.nextInt(110) + behind;
            case 4:
                return text.substring(0, random.nextInt(text.length() + 1));
            default:
                int cut = text.indexOf(';', random.nextInt(text.length() + 1)) + 1;
                return text.substring(0, cut) + words[14 + random.nextInt(8)] + text.substring(cut);
        }
    }

    private static void refuse(int what, int where) {
        if (fault == 0) {
            fault = what;
            place = where;
        }
    }

    /** Each LINE's pattern: "#a-b" is a number within bounds, "V" a VALLEY, "W" the numbers of wants. */
    private static String pattern(String word) {
        switch (word) {
            case "thing":
                return "thing price #0-99 harm #0-999 back #0-99 ;";
            case "valley":
                return "valley shut #0-100 room #0-999 wants W ;";
            case "lorry":
                return "lorry many #1-9 carry #1-50 cost #0-999 ;";
            case "plane":
                return "plane carry #1-50 cost #0-9999 ;";
            case "mule":
                return "mule #0-99 ;";
            case "path":
                return "path V V days #1-30 ;";
            default:
                return null;
        }
    }

    private static void read(String text) {
        fault = 0;
        place = -1;
        lines = 0;
        List<String> tokens = new ArrayList<>();
        List<Integer> places = new ArrayList<>();
        Matcher matcher = TOKEN.matcher(text);
        while (matcher.find()) {
            tokens.add(matcher.group());
            places.add(matcher.start());
        }
        int end = tokens.size();
        tokens.add("<end>");
        places.add(text.length());
        int things = 0;
        int valleys = 0;
        List<String> told = new ArrayList<>();
        int i = 0;
        while (i < end && fault == 0) {
            String word = tokens.get(i);
            String form = lines == 0 ? "winter days #1-60 first #0-100 snow #0-100 clear #0-100 ;" : pattern(word);
            if (form == null) {
                refuse(1, places.get(i));
                return;
            }
            int paths = (int) told.stream().filter(t -> t.startsWith("path")).count();
            if (word.equals("thing") && things == 3 || word.equals("valley") && valleys == 6 || word.equals("path") && paths == 8) {
                refuse(lines == 0 ? 1 : 3, places.get(i));
            }
            if (told.contains(word)) {
                refuse(2, places.get(i));
            }
            List<String> parts = new ArrayList<>(Arrays.asList(form.split(" ")));
            if (parts.contains("W")) {
                int at = parts.indexOf("W");
                parts.remove(at);
                for (int k = 0; k < things; k++) {
                    parts.add(at, "#0-9");
                }
            }
            String one = null;
            for (String part : parts) {
                String token = tokens.get(Math.min(i, end));
                int where = places.get(Math.min(i, end));
                boolean number = token.matches("[0-9]+");
                if (part.startsWith("#") || part.equals("V")) {
                    if (!number) {
                        refuse(1, where);
                    } else {
                        java.math.BigInteger value = new java.math.BigInteger(token);
                        String[] bounds = part.equals("V") ? new String[] {"0", "" + (valleys - 1)} : part.substring(1).split("-");
                        boolean low = value.compareTo(new java.math.BigInteger(bounds[0])) < 0;
                        boolean high = value.compareTo(new java.math.BigInteger(bounds[1])) > 0;
                        if (low || high) {
                            refuse(2, where);
                        }
                        if (part.equals("V") && one != null) {
                            String other = value.toString();
                            if (other.equals(one) || told.contains("path " + one + " " + other) || told.contains("path " + other + " " + one)) {
                                refuse(2, where);
                            }
                            if (fault == 0) {
                                told.add("path " + one + " " + other);
                            }
                        }
                        if (part.equals("V") && one == null) {
                            one = value.toString();
                        }
                    }
                } else if (!part.equals(token)) {
                    refuse(1, where);
                }
                i++;
            }
            things += word.equals("thing") ? 1 : 0;
            valleys += word.equals("valley") ? 1 : 0;
            if (word.equals("lorry") || word.equals("plane") || word.equals("mule")) {
                told.add(word);
            }
            lines++;
        }
    }
}
