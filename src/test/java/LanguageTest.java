import java.io.IOException;
import java.lang.reflect.Field;
import java.lang.reflect.Method;
import java.lang.reflect.Modifier;
import java.nio.file.Files;
import java.nio.file.Path;
import java.util.ArrayList;
import java.util.Arrays;
import java.util.List;
import java.util.Map;
import java.util.Set;
import java.util.TreeMap;
import java.util.TreeSet;
import java.util.regex.Matcher;
import java.util.regex.Pattern;

/** What of LANGUAGE.md, and of the document's public face, a program can look at. */
public final class LanguageTest {
    static final String FACE = "row(int,int,int)int set(int,int,int)int copy(int,int,int,int,int)int drop(int)int "
        + "feed(int)int shelf()int fault()int undo()int add(int,int)int take(int,int)int flip(int,int,int)int "
        + "join(int,int,int,int)int shift(int,int)int gather(int,int,int,int)int contains(int,int)int keys(int)int "
        + "end(int,int)int next(int,int)int beside(int,int,int)int steps(int,int)int tree(int,int)int "
        + "cluster(int,int,int)int summary(int,int)int word(int,int,int)int bits(int,int,int,int)int "
        + "share(int,int)int rank(int,int)int nth(int,int)int near(int,int)int tell(int,int,int,int)int "
        + "chase(int,int,int,int)int meet(int)int cover(int,int,int)int gap(int,int)int "
        + "likely(int,int,int,int,int)long drawn(int,int,int)int image(int)int restore(int)int kind(int)int "
        + "as(int,int)int ask(int,int)int trace(int)int count(int)int status()int";
    static final Pattern METHOD =
        Pattern.compile("^( {8}| {4})(?! |if|for|while|switch)[\\w\\[\\] ]+\\([^;]*\\) \\{$");
    /** Each ends by fewer bits, or by a depth that is carried along. */
    static final Set<String> RECURSIVE = Set.of("nodesOf", "depthOf", "stepsAbove", "answer", "body");
    static int wrong = 0;

    public static void main(String[] args) throws IOException {
        String source = Files.readString(Path.of("src/main/java/NextKeys.java"));
        face();
        classes();
        words(source);
        library(source);
        lengths(source);
        depths(source);
        room();
        System.out.println(wrong == 0 ? "the language is kept to" : wrong + " breaches of the language");
        if (wrong != 0) {
            System.exit(1);
        }
    }

    static void breach(int rule, String what) {
        wrong++;
        System.out.println("rule " + rule + ": " + what);
    }

    static void face() {
        TreeSet<String> told = new TreeSet<>(Arrays.asList(FACE.split(" ")));
        TreeSet<String> there = new TreeSet<>();
        for (Method each : NextKeys.class.getDeclaredMethods()) {
            if (Modifier.isPublic(each.getModifiers())) {
                List<String> types = new ArrayList<>();
                for (Class<?> type : each.getParameterTypes()) {
                    types.add(type.getName());
                }
                there.add(each.getName() + "(" + String.join(",", types) + ")" + each.getReturnType().getName());
            } else if (!Modifier.isPrivate(each.getModifiers())) {
                breach(1, "a member that is neither public nor private: " + each);
            }
        }
        if (!told.equals(there)) {
            breach(1, "the face is " + there);
        }
        for (Field each : NextKeys.class.getDeclaredFields()) {
            boolean constant = List.of("NONE", "BAD", "STATE", "FULL").contains(each.getName());
            if (constant != Modifier.isPublic(each.getModifiers())) {
                breach(1, "the field " + each);
            }
        }
        if (NextKeys.class.getConstructors().length != 1 || !Modifier.isFinal(NextKeys.class.getModifiers())) {
            breach(1, "the class or its constructor");
        }
    }

    static void classes() {
        List<Class<?>> all = new ArrayList<>(List.of(NextKeys.class));
        all.addAll(Arrays.asList(NextKeys.class.getDeclaredClasses()));
        if (all.size() > 12) {
            breach(11, all.size() + " classes");
        }
        for (Class<?> each : all) {
            if (each != NextKeys.class && !Modifier.isStatic(each.getModifiers())) {
                breach(2, each + " is not static");
            }
            int fields = 0;
            for (Field field : each.getDeclaredFields()) {
                boolean isStatic = Modifier.isStatic(field.getModifiers());
                fields += isStatic ? 0 : 1;
                if (isStatic && !Modifier.isFinal(field.getModifiers())) {
                    breach(5, field + " is not final");
                }
            }
            if (fields > 20) {
                breach(11, each + " has " + fields + " fields");
            }
            for (Method method : each.getDeclaredMethods()) {
                if (each != NextKeys.class && FACE.matches(".*\\b" + method.getName() + "\\(.*")) {
                    breach(1, method + " bears the name of a public one");
                }
                if (method.getParameterCount() > 7) {
                    breach(11, method + " has too many parameters");
                }
            }
        }
        TreeSet<String> names = new TreeSet<>();
        for (Method each : NextKeys.class.getDeclaredMethods()) {
            if (!names.add(each.getName())) {
                breach(1, each + " bears a name that another one has");
            }
        }
    }

    static void words(String source) {
        String code = source.replaceAll("(?s)/\\*.*?\\*/", " ").replaceAll("//[^\n]*", " ");
        String[] barred = {"throw", "throws", "try", "catch", "finally", "synchronized", "assert", "import", "package",
            "equals", "hashCode", "toString", "System\\.(?!arraycopy\\b)\\w+", "Thread", "Random", "Object",
            "\\w+Exact", "volatile", "native", "strictfp", "transient", "double", "float", "goto", "static \\{"};
        for (String each : barred) {
            Matcher found = Pattern.compile("(?<!\\w)" + each + "(?!\\w)").matcher(code);
            if (found.find()) {
                breach(6, "the word " + found.group());
            }
        }
        for (String each : new String[] {"->", "::", "\"", "@"}) {
            if (code.contains(each)) {
                breach(6, "the sign " + each);
            }
        }
        for (int i = 0; i < source.length(); i++) {
            if (source.charAt(i) > 126) {
                breach(4, "a sign above 126 at " + i);
            }
        }
    }

    static void library(String source) {
        List<String> used = List.of("Integer.bitCount", "Integer.numberOfLeadingZeros", "Integer.numberOfTrailingZeros",
            "Math.max", "Math.min", "System.arraycopy");
        Matcher found =
            Pattern.compile("\\b(Integer|Long|Math|System|Arrays|Character|String)\\.(\\w+)").matcher(source);
        while (found.find()) {
            if (!used.contains(found.group())) {
                breach(4, found.group() + " is not among what the class is known to use: look, and name it here");
            }
        }
    }

    /** How deep calls go that are no recursion; methods of one name in two classes are looked at as one. */
    static void depths(String source) {
        Map<String, Set<String>> called = calledBy(source);
        for (String each : called.keySet()) {
            int depth = depthFrom(each, called, new ArrayList<>());
            if (depth > 8) {
                breach(11, each + " begins calls that go " + depth + " deep");
            }
            if (depth == 0) {
                breach(8, "a recursion that is not known to this test: " + each);
            }
        }
    }

    /** Of each method of the class the names of those that stand in its body. */
    static Map<String, Set<String>> calledBy(String source) {
        Map<String, Set<String>> called = new TreeMap<>();
        String at = "";
        for (String line : source.split("\n")) {
            Matcher head = METHOD.matcher(line);
            Matcher names = Pattern.compile("(\\w+)\\(").matcher(line);
            if (head.matches() && names.find()) {
                at = names.group(1);
                called.putIfAbsent(at, new TreeSet<>());
            }
            while (!at.isEmpty() && names.find()) {
                called.get(at).add(names.group(1));
            }
        }
        return called;
    }

    /** 0, if a recursion other than the known ones stands in it. */
    static int depthFrom(String method, Map<String, Set<String>> called, List<String> open) {
        int deepest = 0;
        open.add(method);
        for (String each : called.get(method)) {
            boolean isKnown = RECURSIVE.contains(method) && RECURSIVE.contains(each);
            if (called.containsKey(each) && !isKnown) {
                int deeper = open.contains(each) ? 0 : depthFrom(each, called, open);
                if (deeper == 0) {
                    return 0;
                }
                deepest = Math.max(deepest, deeper);
            }
        }
        open.remove(open.size() - 1);
        return 1 + deepest;
    }

    static void lengths(String source) {
        String[] lines = source.split("\n", -1);
        int begin = -1;
        String indent = "";
        for (int i = 0; i < lines.length; i++) {
            Matcher head = METHOD.matcher(lines[i]);
            if (begin < 0 && head.matches()) {
                begin = i;
                indent = head.group(1);
            }
            if (begin >= 0 && lines[i].equals(indent + "}")) {
                if (i - begin > 60) {
                    breach(11, "a method of " + (i - begin) + " lines at line " + (begin + 1));
                }
                begin = -1;
            }
        }
    }

    /** The dearest calls, as many as an object may have: far below the room of 7.3 million elements. */
    static void room() {
        long most = 0;
        for (int call = 0; call < 6; call++) {
            long before = allocated();
            dearRun(call);
            most = Math.max(most, allocated() - before);
        }
        if (most > 2000000) {
            breach(12, "a run takes " + most + " bytes");
        }
    }

    static long allocated() {
        com.sun.management.ThreadMXBean bean =
            (com.sun.management.ThreadMXBean) java.lang.management.ManagementFactory.getThreadMXBean();
        return bean.getThreadAllocatedBytes(Thread.currentThread().getId());
    }

    static void dearRun(int call) {
        NextKeys x = new NextKeys();
        String text = "u10;a0;b0;c0;d0;";
        for (int i = 0; i < text.length(); i++) {
            x.feed(text.charAt(i));
        }
        x.shelf();
        x.image(0);
        for (int i = 0; i < 490; i++) {
            switch (call) {
                case 0 -> x.drawn(200, 1, 1);
                case 1 -> x.restore(0);
                case 2 -> x.image(1);
                case 3 -> x.shift(0, 1);
                case 4 -> x.row(0, 2, 40);
                default -> x.flip(0, 0, 1023);
            }
        }
    }
}
