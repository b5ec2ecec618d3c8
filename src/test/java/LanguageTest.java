import java.io.IOException;
import java.lang.reflect.Constructor;
import java.lang.reflect.Executable;
import java.lang.reflect.Field;
import java.lang.reflect.Method;
import java.lang.reflect.Modifier;
import java.nio.file.Files;
import java.nio.file.Paths;
import java.util.ArrayList;
import java.util.HashSet;
import java.util.LinkedHashMap;
import java.util.List;
import java.util.Map;
import java.util.Set;
import java.util.TreeSet;
import java.util.regex.Matcher;
import java.util.regex.Pattern;

/** The rules of LANGUAGE.md that the class's text, or what was compiled of it, shows. */
public final class LanguageTest {
    private static final List<String> FORBIDDEN = List.of("throw", "throws", "try", "catch", "finally",
            "synchronized", "assert", "package");
    private static final List<String> LIBRARY = List.of("Integer.bitCount");
    private static final Set<Class<?>> CONSTANTS = Set.of(int.class, long.class, boolean.class, char.class,
            String.class, int[].class, long[].class, char[].class, byte[].class);
    private static final Pattern HEAD =
            Pattern.compile("^(?: {4}| {8})(?:(?:public|private|static|final) )*(\\w+(?:\\[\\])? )?(\\w+)\\([^;]*\\) \\{$");
    private static final Pattern CALL = Pattern.compile("(\\w+)\\(");

    private LanguageTest() {
    }

    public static void main(String[] args) throws IOException {
        String text = withoutComments(Files.readString(Paths.get("src/main/java/SignedCore.java")));
        words(text);
        library(text);
        Map<String, List<String>> bodies = bodies(text);
        lengths(bodies);
        objectsMade(text, bodies);
        depths(bodies);
        classes();
        Check.finish();
    }

    private static void due(String what, boolean holds) {
        Check.due(what, holds ? 1 : 0, 1);
    }

    private static String withoutComments(String text) {
        return text.replaceAll("(?s)/\\*.*?\\*/", "").replaceAll("//[^\n]*", "");
    }

    private static int times(String text, String pattern) {
        Matcher m = Pattern.compile(pattern).matcher(text);
        int n = 0;
        while (m.find()) {
            n++;
        }
        return n;
    }

    private static void words(String text) {
        Check.sentence("rules 2, 6: what may not be used");
        for (String word : FORBIDDEN) {
            Check.due(word, times(text, "\\b" + word + "\\b"), 0);
        }
        Check.due("lambdas", times(text, "->"), 0);
        Check.due("references to methods", times(text, "::"), 0);
        Check.due("static blocks", times(text, "static\\s*\\{"), 0);
    }

    private static void library(String text) {
        Check.sentence("rules 4, 13: the library");
        Check.due("import", times(text, "\\bimport\\b"), 0);
        TreeSet<String> used = new TreeSet<>();
        Matcher m = Pattern.compile("\\b[A-Z]\\w*[a-z]\\w*\\.\\w+").matcher(text);
        while (m.find()) {
            used.add(m.group());
        }
        due("no more of the library than " + LIBRARY + ": " + used, LIBRARY.containsAll(used));
    }

    /** The lines of each method and constructor; those of one name in two classes stand together. */
    private static Map<String, List<String>> bodies(String text) {
        Map<String, List<String>> bodies = new LinkedHashMap<>();
        List<String> body = null;
        String end = "";
        for (String line : text.split("\n")) {
            if (body != null) {
                body.add(line);
                body = line.equals(end) ? null : body;
                continue;
            }
            Matcher m = HEAD.matcher(line);
            if (m.matches()) {
                body = bodies.computeIfAbsent(m.group(2), name -> new ArrayList<>());
                end = " ".repeat(line.length() - line.stripLeading().length()) + "}";
            }
        }
        return bodies;
    }

    private static void lengths(Map<String, List<String>> bodies) {
        Check.sentence("rule 11: methods stay short");
        int there = 0;
        for (Class<?> c : allClasses()) {
            for (Executable e : members(c)) {
                String name = e instanceof Constructor ? c.getSimpleName() : e.getName();
                due("the text of " + name + " was found", bodies.containsKey(name));
                due(name + " takes at most seven", e.getParameterCount() <= 7);
                there++;
            }
        }
        due("methods", there >= bodies.size());
        for (Map.Entry<String, List<String>> e : bodies.entrySet()) {
            due(e.getKey() + " has " + e.getValue().size() + " lines", e.getValue().size() <= 60);
        }
    }

    private static void objectsMade(String text, Map<String, List<String>> bodies) {
        Check.sentence("rule 12: objects are made in constructors alone, so that calls fill no room");
        int inConstructors = 0;
        for (Class<?> c : allClasses()) {
            inConstructors += times(String.join("\n", bodies.getOrDefault(c.getSimpleName(), List.of())), "\\bnew\\b");
        }
        Check.due("new", times(text, "\\bnew\\b"), inConstructors);
        Check.due("copies", times(text, "\\.clone\\(|copyOf"), 0);
    }

    private static void depths(Map<String, List<String>> bodies) {
        Check.sentence("rules 8, 11: calls go at most eight deep, none goes to itself");
        for (String name : bodies.keySet()) {
            int deep = depth(name, bodies, new HashSet<>());
            due(name + " goes " + deep + " deep", deep <= 8);
        }
    }

    private static int depth(String name, Map<String, List<String>> bodies, Set<String> open) {
        if (!open.add(name)) {
            return 1000;
        }
        int deepest = 0;
        Matcher m = CALL.matcher(String.join("\n", bodies.get(name)));
        while (m.find()) {
            if (bodies.containsKey(m.group(1))) {
                deepest = Math.max(deepest, depth(m.group(1), bodies, open));
            }
        }
        open.remove(name);
        return 1 + deepest;
    }

    private static void classes() {
        Check.sentence("rules 1, 2, 5, 11: classes and fields");
        List<Class<?>> all = allClasses();
        due("at most twelve classes: " + all.size(), all.size() <= 12);
        for (Class<?> c : all) {
            int is = c.getModifiers();
            if (c != SignedCore.class) {
                due(c + " is static", Modifier.isStatic(is));
                due(c + " is not seen from outside", !Modifier.isPublic(is) && !Modifier.isProtected(is));
            }
            fields(c);
        }
    }

    private static void fields(Class<?> c) {
        int held = 0;
        for (Field f : c.getDeclaredFields()) {
            if (!Modifier.isStatic(f.getModifiers())) {
                held++;
                continue;
            }
            due(f + " is final", Modifier.isFinal(f.getModifiers()));
            due(f + " is a constant", CONSTANTS.contains(f.getType()));
        }
        due(c + " has " + held + " fields", held <= 20);
    }

    private static List<Class<?>> allClasses() {
        List<Class<?>> all = new ArrayList<>();
        all.add(SignedCore.class);
        all.addAll(List.of(SignedCore.class.getDeclaredClasses()));
        return all;
    }

    private static List<Executable> members(Class<?> c) {
        List<Executable> all = new ArrayList<>(List.of(c.getDeclaredConstructors()));
        for (Method m : c.getDeclaredMethods()) {
            if (!m.isSynthetic()) {
                all.add(m);
            }
        }
        return all;
    }
}
