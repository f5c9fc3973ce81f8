import java.io.IOException;
import java.lang.reflect.Field;
import java.lang.reflect.Method;
import java.lang.reflect.Modifier;
import java.nio.file.Files;
import java.nio.file.Path;
import java.util.ArrayList;
import java.util.Arrays;
import java.util.List;
import java.util.Map;
import java.util.Set;
import java.util.TreeMap;
import java.util.TreeSet;
import java.util.regex.Matcher;
import java.util.regex.Pattern;

/** The face of the document, and those rules of LANGUAGE.md that can be seen from outside or in the text. */
public final class LanguageTest {
    private static final Check CHECK = new Check();

    public static void main(String[] args) throws IOException {
        String source = Files.readString(Path.of("src/main/java/RoadShut.java"));
        String code = withoutTextsAndComments(source);
        face();
        membersInside();
        words(code);
        Map<String, String> bodies = methods(code);
        lengths(bodies);
        depths(bodies);
        onlyArrays(code);
        CHECK.finish();
    }

    private static Path document() {
        String shared = System.getenv("SHARED");
        return Path.of(shared == null ? "../shared" : shared, "DOC.md");
    }

    private static void face() throws IOException {
        String text = Files.readString(document());
        Matcher block = Pattern.compile("```java\n(.*?)```", Pattern.DOTALL).matcher(text);
        CHECK.holds("the document has its face", block.find());
        Set<String> due = new TreeSet<>();
        Matcher method = Pattern.compile("public (int|long) (\\w+)\\(([^)]*)\\);").matcher(block.group(1));
        while (method.find()) {
            StringBuilder types = new StringBuilder();
            for (String parameter : method.group(3).split(",")) {
                types.append(parameter.trim().split(" ")[0]).append(' ');
            }
            due.add(method.group(1) + " " + method.group(2) + " " + types.toString().trim());
        }
        Set<String> got = new TreeSet<>();
        for (Method m : RoadShut.class.getDeclaredMethods()) {
            if (!Modifier.isPrivate(m.getModifiers())) {
                CHECK.holds(m + " is public and no static", Modifier.isPublic(m.getModifiers()) && !Modifier.isStatic(m.getModifiers()));
                StringBuilder types = new StringBuilder();
                for (Class<?> type : m.getParameterTypes()) {
                    types.append(type.getSimpleName()).append(' ');
                }
                got.add(m.getReturnType().getSimpleName() + " " + m.getName() + " " + types.toString().trim());
            }
        }
        CHECK.due("methods of the face", due.size(), 50);
        CHECK.holds("the face is " + due + ", not " + got, due.equals(got));
        CHECK.holds("public and final", Modifier.isPublic(RoadShut.class.getModifiers()) && Modifier.isFinal(RoadShut.class.getModifiers()));
        CHECK.due("constructors", RoadShut.class.getDeclaredConstructors().length, 1);
        for (Field field : RoadShut.class.getDeclaredFields()) {
            CHECK.holds(field + " is private", Modifier.isPrivate(field.getModifiers()) || field.getName().equals("NONE"));
        }
    }

    private static void membersInside() {
        Set<String> faceNames = new TreeSet<>();
        for (Method m : RoadShut.class.getDeclaredMethods()) {
            if (Modifier.isPublic(m.getModifiers())) {
                faceNames.add(m.getName());
            }
        }
        List<Class<?>> classes = new ArrayList<>(Arrays.asList(RoadShut.class.getDeclaredClasses()));
        CHECK.holds("some twelve classes", classes.size() + 1 <= 12);
        for (Class<?> inside : classes) {
            CHECK.holds(inside + " is static", Modifier.isStatic(inside.getModifiers()));
            CHECK.holds(inside + " is not public", !Modifier.isPublic(inside.getModifiers()));
            CHECK.due("classes in " + inside, inside.getDeclaredClasses().length, 0);
        }
        classes.add(RoadShut.class);
        for (Class<?> each : classes) {
            int fields = 0;
            for (Field field : each.getDeclaredFields()) {
                boolean isStatic = Modifier.isStatic(field.getModifiers());
                fields += isStatic ? 0 : 1;
                CHECK.holds(field + " is final, if static", !isStatic || Modifier.isFinal(field.getModifiers()));
            }
            CHECK.holds(each + " has some twenty fields, not " + fields, fields <= 21);
            for (Method m : each.getDeclaredMethods()) {
                CHECK.holds(m + " takes seven at most", m.getParameterCount() <= 7);
                boolean clash = faceNames.contains(m.getName()) && !(each == RoadShut.class && Modifier.isPublic(m.getModifiers()));
                CHECK.holds(m + " bears no name of the face", !clash);
            }
        }
    }

    private static void words(String code) {
        String[] banned = {"throw", "throws", "try", "catch", "finally", "synchronized", "assert", "instanceof", "var", "Random", "Thread",
            "System.out", "System.nanoTime", "System.currentTimeMillis", "protected", "Object", "HashMap", "Exact", "double", "float"};
        for (String word : banned) {
            boolean found = Pattern.compile("\\b" + Pattern.quote(word) + "\\b").matcher(code).find();
            CHECK.holds("no word " + word, !found);
        }
        CHECK.holds("no lambda, no arrow", !code.contains("->"));
        CHECK.holds("no method reference", !code.contains("::"));
        CHECK.holds("no name that ends in Exact", !Pattern.compile("\\w+Exact\\b").matcher(code).find());
        CHECK.holds("no package line", !Pattern.compile("(?m)^package\\b").matcher(code).find());
        CHECK.holds("no text joined by +", !Pattern.compile("\"\\s*\\+|\\+\\s*\"").matcher(code).find());
        Matcher imports = Pattern.compile("(?m)^import (.*);").matcher(code);
        while (imports.find()) {
            CHECK.holds("import " + imports.group(1), imports.group(1).equals("java.util.Arrays"));
        }
        Matcher calls = Pattern.compile("\\b(Math|Arrays|Integer|Long|System|String)\\.(\\w+)").matcher(code);
        Set<String> allowed = Set.of("Math.min", "Math.max", "Arrays.fill", "Integer.bitCount", "Long.MAX_VALUE", "System.arraycopy");
        while (calls.find()) {
            CHECK.holds("library " + calls.group(), allowed.contains(calls.group()));
        }
        for (int i = 0; i < code.length(); i++) {
            CHECK.holds("plain signs", code.charAt(i) < 128);
        }
    }

    /** By name what stands in each method; those of one name stand together, as if each called what any of them does. */
    private static Map<String, String> methods(String code) {
        Map<String, String> bodies = new TreeMap<>();
        String[] lines = code.split("\n");
        for (int i = 0; i < lines.length; i++) {
            Matcher head = Pattern.compile("^( {4}| {8})(?:[\\w\\[\\]]+ )+(\\w+)\\([^=;]*\\) \\{$").matcher(lines[i]);
            if (head.matches() && !lines[i].trim().matches("(else|return|new) .*")) {
                StringBuilder body = new StringBuilder();
                int end = i + 1;
                for (; end < lines.length && !lines[end].equals(head.group(1) + "}"); end++) {
                    body.append(lines[end]).append('\n');
                }
                CHECK.holds(head.group(2) + " is too long: " + (end - i + 1), end - i + 1 <= 60);
                bodies.merge(head.group(2), body.toString(), String::concat);
            }
        }
        return bodies;
    }

    private static void lengths(Map<String, String> bodies) {
        for (Class<?> inside : RoadShut.class.getDeclaredClasses()) {
            for (Method m : inside.getDeclaredMethods()) {
                CHECK.holds(m.getName() + " was seen", bodies.containsKey(m.getName()));
            }
        }
        for (Method m : RoadShut.class.getDeclaredMethods()) {
            CHECK.holds(m.getName() + " was seen", bodies.containsKey(m.getName()));
        }
    }

    /** Rules 8 and 11: who calls himself is counted once, none calls another one that calls him. */
    private static void depths(Map<String, String> bodies) {
        int deepest = 0;
        Set<String> callingThemselves = new TreeSet<>();
        for (String name : bodies.keySet()) {
            deepest = Math.max(deepest, depth(bodies, name, new ArrayList<>()));
            if (Pattern.compile("\\b" + name + "\\(").matcher(bodies.get(name)).find()) {
                callingThemselves.add(name);
            }
        }
        CHECK.holds("only splitFrom, which has a guard, calls itself: " + callingThemselves, callingThemselves.equals(Set.of("splitFrom")));
        CHECK.holds("calls go eight deep at most, not " + deepest, deepest <= 8);
        CHECK.holds("calls were seen", deepest > 3);
    }

    private static int depth(Map<String, String> bodies, String name, List<String> open) {
        CHECK.holds(name + " is called again from " + open, !open.contains(name));
        if (open.contains(name)) {
            return 1000;
        }
        open.add(name);
        int below = 0;
        Matcher call = Pattern.compile("\\b(\\w+)\\(").matcher(bodies.get(name));
        Set<String> called = new TreeSet<>();
        while (call.find()) {
            called.add(call.group(1));
        }
        for (String other : called) {
            if (bodies.containsKey(other) && !other.equals(name)) {
                below = Math.max(below, depth(bodies, other, open));
            }
        }
        open.remove(name);
        return below + 1;
    }

    /** Rules 3 and 12: arrays of one dimension alone; no list and no text is made that would count beside them. */
    private static void onlyArrays(String code) {
        CHECK.holds("arrays of one dimension", !code.contains("[][]"));
        CHECK.holds("no list", !Pattern.compile("\\bList\\b|\\bArrayList\\b|\\bStringBuilder\\b").matcher(code).find());
    }

    private static String withoutTextsAndComments(String source) {
        String answer = source.replaceAll("(?s)/\\*.*?\\*/", "");
        answer = answer.replaceAll("//[^\n]*", "");
        answer = answer.replaceAll("\"[^\"\n]*\"", "\"\"");
        return answer;
    }
}
