import java.io.IOException;
import java.lang.management.ManagementFactory;
import java.lang.reflect.Executable;
import java.lang.reflect.Field;
import java.lang.reflect.Method;
import java.lang.reflect.Modifier;
import java.nio.file.Files;
import java.nio.file.Path;
import java.util.List;
import java.util.Map;
import java.util.Set;
import java.util.TreeMap;
import java.util.TreeSet;
import java.util.regex.Matcher;
import java.util.regex.Pattern;

/** The public face, the rules of LANGUAGE.md that a text or a class file can show, and the room taken. */
final class FormTest {
    private static final Check CHECK = new Check();
    private static final Path SOURCE = Path.of("src/main/java/WhoIsThere.java");
    private static final Pattern METHOD_HEAD = Pattern.compile("(?: {4}| {8})[a-zA-Z][^=;]*?\\b(\\w+)\\([^()]*\\) \\{");
    private static final List<String> FACE = List.of(
            "int host(int,int,int,int)", "int offer(int,int,int,int,int)", "int lie(int,int,int,int,int)",
            "boolean drop(int)", "boolean change(int,int)", "boolean ask(int,int,int)",
            "boolean sleep(int,int)", "boolean wake(int)", "boolean fall(int)", "boolean leave(int)",
            "boolean keeper(int,boolean)", "boolean bridge(int,int,int)", "boolean lose(int,int)",
            "boolean deaf(int,int)", "boolean join(int,int)", "int tick(int)", "int find(int,int,int,int)",
            "int record(int,int,int)", "int service(int,int)", "int look(int,int)", "int reach(int,int)",
            "int twice(int)", "int count(int)");

    public static void main(String[] args) throws IOException {
        theFace();
        nothingElseIsSeen();
        theClassesInside();
        theText();
        ticksMakeNothing();
        CHECK.end("FormTest");
    }

    private static void holds(String what, boolean is) {
        CHECK.due(what, is, true);
    }

    private static String faceOf(Method method) {
        StringBuilder text = new StringBuilder(method.getReturnType() + " " + method.getName() + "(");
        for (Class<?> type : method.getParameterTypes()) {
            text.append(text.charAt(text.length() - 1) == '(' ? "" : ",").append(type);
        }
        return text.append(")").toString();
    }

    private static void theFace() {
        Set<String> seen = new TreeSet<>();
        for (Method method : WhoIsThere.class.getDeclaredMethods()) {
            if (Modifier.isPublic(method.getModifiers())) {
                seen.add(faceOf(method));
                holds(method + " is of an object", !Modifier.isStatic(method.getModifiers()));
            }
        }
        holds("the methods of the face: " + seen, seen.equals(new TreeSet<>(FACE)));
        holds("public and final",
                (WhoIsThere.class.getModifiers() & (Modifier.PUBLIC | Modifier.FINAL))
                        == (Modifier.PUBLIC | Modifier.FINAL));
        CHECK.due("constructors", WhoIsThere.class.getDeclaredConstructors().length, 1);
        CHECK.due("public constructors", WhoIsThere.class.getConstructors().length, 1);
        CHECK.due("NONE", WhoIsThere.NONE, -1);
    }

    private static void nothingElseIsSeen() {
        Set<String> publicNames = new TreeSet<>();
        for (Method method : WhoIsThere.class.getMethods()) {
            publicNames.add(method.getName());
        }
        for (Method method : WhoIsThere.class.getDeclaredMethods()) {
            int how = method.getModifiers();
            holds(method + " is public or private", Modifier.isPublic(how) || Modifier.isPrivate(how));
            holds(method + " has a name of its own",
                    Modifier.isPublic(how) || !publicNames.contains(method.getName()));
        }
        for (Field field : WhoIsThere.class.getDeclaredFields()) {
            int how = field.getModifiers();
            holds(field + " is private", Modifier.isPrivate(how) || field.getName().equals("NONE"));
        }
    }

    private static void theClassesInside() {
        Class<?>[] inside = WhoIsThere.class.getDeclaredClasses();
        holds("at most some twelve classes", inside.length < 12);
        for (Class<?> one : inside) {
            holds(one + " is static", Modifier.isStatic(one.getModifiers()));
            holds(one + " is not public", !Modifier.isPublic(one.getModifiers()));
            theMembers(one);
        }
        theMembers(WhoIsThere.class);
    }

    private static void theMembers(Class<?> one) {
        int own = 0;
        for (Field field : one.getDeclaredFields()) {
            int how = field.getModifiers();
            own += Modifier.isStatic(how) ? 0 : 1;
            holds(field + ": static ones are final", !Modifier.isStatic(how) || Modifier.isFinal(how));
        }
        holds(one + " has at most some twenty fields", own <= 20);
        for (Executable method : one.getDeclaredMethods()) {
            holds(method + " takes at most seven", method.getParameterCount() <= 7);
        }
        for (Executable constructor : one.getDeclaredConstructors()) {
            holds(constructor + " takes at most seven", constructor.getParameterCount() <= 7);
        }
    }

    private static void theText() throws IOException {
        String text = Files.readString(SOURCE);
        String code = text.replaceAll("(?s)/\\*.*?\\*/", "").replaceAll("//[^\\n]*", "");
        Pattern ruledOut = Pattern.compile("\\b(throw|throws|try|catch|finally|synchronized|assert|import|package"
                + "|Object|System|Random|Thread|static\\s*\\{)\\b|->|::|Exact\\b|\"");
        Matcher found = ruledOut.matcher(code);
        while (found.find()) {
            holds("ruled out: " + found.group(), false);
        }
        holds("no while: each loop counts", !Pattern.compile("\\b(while|do)\\b").matcher(code).find());
        holds("characters 0 to 255", text.chars().allMatch(c -> c < 256));
        theLibrary(code);
        loopsCount(code);
        divisorsAreConstants(code);
        callsAreNotDeep(code);
        methodsAreShort(text.split("\n"));
    }

    /** Rules 3, 4 and 6: nothing of the library but a function of Integer, no casts, rows of one dimension. */
    private static void theLibrary(String code) {
        for (String used : found(code, "\\b([A-Z]\\w*\\.\\w+)")) {
            holds("of the library: " + used, used.equals("Integer.bitCount"));
        }
        for (String made : found(code, "\\bnew (\\w+)")) {
            holds("made: " + made, made.equals("int") || code.contains("class " + made + " {"));
        }
        holds("no casts", found(code, "\\((int|[A-Z]\\w*)\\) *[\\w(]").isEmpty());
        holds("rows of one dimension", !code.contains("[][]"));
    }

    /** Rule 9: a loop's end can be seen from its own line. */
    private static void loopsCount(String code) {
        List<String> loops = found(code, "\\b(for \\(.*)");
        holds("there are loops", !loops.isEmpty());
        for (String loop : loops) {
            holds(loop, loop.matches("for \\(int (\\w+) = .*; \\1 < .*; \\1\\+\\+\\) \\{"));
        }
    }

    /** Rule 7: a divisor that is a constant need not be looked at. */
    private static void divisorsAreConstants(String code) {
        for (String divisor : found(code, "[/%]=? *([^ ;]+)")) {
            holds("divisor " + divisor, divisor.equals("2") || divisor.equals("LOTS"));
        }
    }

    private static List<String> found(String code, String pattern) {
        return Pattern.compile(pattern).matcher(code).results().map(one -> one.group(1)).toList();
    }

    /** Rules 8 and 11: no recursion, and calls at most eight deep; methods of one name are taken together. */
    private static void callsAreNotDeep(String code) {
        Map<String, Set<String>> called = new TreeMap<>();
        String current = "";
        for (String line : code.split("\n")) {
            Matcher head = METHOD_HEAD.matcher(line);
            if (head.matches()) {
                current = head.group(1);
                called.putIfAbsent(current, new TreeSet<>());
            } else if (called.containsKey(current)) {
                called.get(current).addAll(found(line, "\\b(\\w+)\\("));
            }
        }
        holds("methods were found", called.containsKey("tick") && called.containsKey("isIn"));
        for (String method : called.keySet()) {
            int depth = depthOf(method, called, 0);
            holds(method + " calls " + depth + " deep", depth <= 8);
        }
    }

    private static int depthOf(String method, Map<String, Set<String>> called, int open) {
        int deepest = 0;
        // A method that calls itself would go on for ever: far beyond what is allowed the count ends.
        if (open < 20) {
            for (String next : called.get(method)) {
                deepest = Math.max(deepest, called.containsKey(next) ? depthOf(next, called, open + 1) : 0);
            }
        }
        return deepest + 1;
    }

    private static void methodsAreShort(String[] lines) {
        for (int depth : new int[] {4, 8}) {
            String indent = " ".repeat(depth);
            int start = -1;
            for (int i = 0; i < lines.length; i++) {
                if (lines[i].matches(indent + "[\\w<].*\\) \\{")) {
                    start = i;
                }
                if (start >= 0 && lines[i].equals(indent + "}")) {
                    holds("some sixty lines: " + lines[start], i - start < 60);
                    start = -1;
                }
            }
        }
    }

    /** Ticks go by in rows made beforehand: however many, they take no room. */
    private static void ticksMakeNothing() {
        long before = bytesMade();
        WhoIsThere full = fullHouse();
        long made = bytesMade() - before;
        holds("a full house takes little room: " + made, made < 200_000);
        play(full);
        WhoIsThere again = fullHouse();
        before = bytesMade();
        play(again);
        made = bytesMade() - before;
        holds("calls make nothing: " + made, made < 2_000);
        holds("the play was no idle one", again.count(3) > 1_000 && again.count(10) > 100);
    }

    private static long bytesMade() {
        return ((com.sun.management.ThreadMXBean) ManagementFactory.getThreadMXBean())
                .getThreadAllocatedBytes(Thread.currentThread().getId());
    }

    private static WhoIsThere fullHouse() {
        WhoIsThere x = new WhoIsThere();
        for (int h = 0; h < 12; h++) {
            x.host(h % 3, 1, 40, h % 4);
        }
        x.bridge(9, 1, 65535);
        x.bridge(10, 2, 65535);
        x.bridge(11, 3, 65535);
        x.bridge(8, 3, 65535);
        for (int s = 0; s < 32; s++) {
            x.offer(s % 8, s % 3, 1 + s / 2, s, 4 + s);
        }
        return x;
    }

    private static void play(WhoIsThere x) {
        for (int i = 0; i < 100; i++) {
            x.ask(i % 8, i % 3, 0);
            x.change(i % 32, i);
            x.keeper(i % 8, i % 2 == 0);
            x.find(i % 8, i % 3, 0, 0);
            x.reach(i % 8, i % 32);
            x.tick(20);
        }
    }
}
