import java.lang.management.ManagementFactory;
import java.lang.reflect.Constructor;
import java.lang.reflect.Field;
import java.lang.reflect.Member;
import java.lang.reflect.Method;
import java.lang.reflect.Modifier;
import java.io.IOException;
import java.nio.file.Files;
import java.nio.file.Path;
import java.util.Random;
import java.util.Set;
import java.util.TreeSet;
import java.util.regex.Matcher;
import java.util.regex.Pattern;

/** The public face, the rules of LANGUAGE.md that a test can see, and calls with any arguments. */
public final class FaceTest {
    private static final Check CHECK = new Check();
    private static final Path SOURCE = Path.of("src/main/java/KeyBox.java");
    private static final Set<String> FACE = Set.of("NONE int", "RANGE int", "FULL int", "STATE int", "KeyBox 0",
            "feed 5", "end 1", "members 1", "meet 2", "enter 3", "entry 2", "back 0", "rules 1", "fault 1", "rule 2",
            "play 1", "member 2", "meeting 2", "sum 1", "parts 2", "gains 3", "count 1");

    public static void main(String[] args) throws IOException {
        constants();
        faceIsTheDocuments();
        sourceKeepsToTheLanguage();
        noCallThrows();
        noCallMakesObjects();
        CHECK.finish();
    }

    private static void constants() {
        CHECK.due("NONE", KeyBox.NONE, -1);
        CHECK.due("RANGE", KeyBox.RANGE, -2);
        CHECK.due("FULL", KeyBox.FULL, -3);
        CHECK.due("STATE", KeyBox.STATE, -4);
    }

    private static void faceIsTheDocuments() {
        Set<String> seen = new TreeSet<>();
        Set<String> privateMethods = new TreeSet<>();
        for (Method method : KeyBox.class.getDeclaredMethods()) {
            if (isPrivate(method)) {
                privateMethods.add(method.getName());
            } else {
                seen.add(method.getName() + " " + method.getParameterCount());
                CHECK.due(method + " answers an int", method.getReturnType() == int.class ? 1 : 0, 1);
            }
        }
        for (Field field : KeyBox.class.getDeclaredFields()) {
            if (!isPrivate(field)) {
                seen.add(field.getName() + " " + field.getType());
            }
        }
        for (Constructor<?> constructor : KeyBox.class.getDeclaredConstructors()) {
            seen.add("KeyBox " + constructor.getParameterCount());
        }
        dueNone("of the face are missing", less(FACE, seen));
        dueNone("are beyond the face", less(seen, FACE));
        CHECK.due("final and public", KeyBox.class.getModifiers(), Modifier.PUBLIC | Modifier.FINAL);
        for (Class<?> inside : KeyBox.class.getDeclaredClasses()) {
            CHECK.due(inside + " is static", inside.getModifiers() & Modifier.STATIC, Modifier.STATIC);
            for (Method method : inside.getDeclaredMethods()) {
                privateMethods.add(method.getName());
            }
        }
        privateMethods.removeIf(name -> FACE.stream().noneMatch(of -> of.startsWith(name + " ")));
        dueNone("are named as public ones", privateMethods);
    }

    private static boolean isPrivate(Member member) {
        return Modifier.isPrivate(member.getModifiers());
    }

    private static Set<String> less(Set<String> all, Set<String> without) {
        Set<String> rest = new TreeSet<>(all);
        rest.removeAll(without);
        return rest;
    }

    private static void dueNone(String what, Set<String> found) {
        CHECK.due(found + " " + what + ": how many", found.size(), 0);
    }

    private static void sourceKeepsToTheLanguage() throws IOException {
        String code = Files.readString(SOURCE).replaceAll("(?s)/\\*.*?\\*/", "").replaceAll("//[^\n]*", "")
                .replaceAll("\"[^\"\n]*\"", "\"\"");
        String[] ruledOut = {"\\b(throw|throws|try|catch|finally|synchronized|assert|package|native|volatile)\\b",
            "->", "::", "\\bimport (?!java\\.util\\.Arrays;)", "\\bSystem\\.(?!arraycopy\\b)", "Exact\\b",
            "\\bstatic \\{", "\\bwhile \\(true\\)", "for \\(;;"};
        for (String pattern : ruledOut) {
            Matcher found = Pattern.compile(pattern).matcher(code);
            CHECK.due("in the source, " + pattern, found.find() ? 1 : 0, 0);
        }
    }

    private static final int[] EDGES = {Integer.MIN_VALUE, Integer.MIN_VALUE + 1, -1000, -9, -2, -1, 0, 1, 2, 3, 4, 5,
        6, 7, 8, 9, 10, 11, 12, 13, 23, 24, 25, 51, 52, 53, 299, 300, 500, 501, 1000, 100000, 1 << 23, 1 << 24,
        1000000, Integer.MAX_VALUE - 1, Integer.MAX_VALUE};

    private static void noCallThrows() {
        Random random = new Random(11);
        for (int run = 0; run < 300; run++) {
            KeyBox box = new KeyBox();
            if (run % 2 == 0) {
                box.members(3 + random.nextInt(22));
                box.meet(0, 7);
            }
            for (int call = 0; call < 500; call++) {
                anyCall(box, random);
            }
        }
        CHECK.due("every call came back", 1, 1);
    }

    private static void anyCall(KeyBox box, Random random) {
        int a = EDGES[random.nextInt(EDGES.length)];
        int b = EDGES[random.nextInt(EDGES.length)];
        int c = EDGES[random.nextInt(EDGES.length)];
        switch (random.nextInt(18)) {
            case 0 -> box.feed(a, b, c, a, b);
            case 1 -> box.end(a);
            case 2 -> box.members(a);
            case 3, 4 -> box.meet(a, b);
            case 5, 6 -> box.enter(a, b, c);
            case 7 -> box.entry(a, b);
            case 8 -> box.back();
            case 9 -> box.rules(a);
            case 10 -> box.fault(a);
            case 11 -> box.rule(a, b);
            case 12 -> box.play(a);
            case 13 -> box.member(a, b);
            case 14 -> box.meeting(a, b);
            case 15 -> box.sum(a);
            case 16 -> box.parts(a, b);
            default -> box.gains(a, b, c + box.count(a));
        }
    }

    /** All calls of a run live in one room, so that rows are made by the constructor alone. */
    private static void noCallMakesObjects() {
        KeyBox box = new KeyBox();
        box.members(24);
        for (int week = 0; week < 52; week++) {
            box.meet(week, (1 << 24) - 1);
            box.enter(1, week % 24, 5);
            box.enter(2, week % 24, 20);
        }
        int before = dearCalls(box, 20);
        com.sun.management.ThreadMXBean threads =
                (com.sun.management.ThreadMXBean) ManagementFactory.getThreadMXBean();
        long id = Thread.currentThread().getId();
        long bytes = threads.getThreadAllocatedBytes(id);
        int after = dearCalls(box, 20);
        bytes = threads.getThreadAllocatedBytes(id) - bytes;
        CHECK.due("the same calls, the same answers", after, before);
        // One play that made its rows anew would take more than this by itself.
        CHECK.due("little room is taken by 120 calls: " + bytes + " bytes", bytes < 2000 ? 1 : 0, 1);
    }

    private static int dearCalls(KeyBox box, int times) {
        int all = 0;
        for (int i = 0; i < times; i++) {
            box.feed(0x6d6f7374, 0x20323b20, 0x6c6f616e, 0x20393b20, 0x20202020);
            all = all * 31 + box.rules(1) + box.rule(1, 1);
            all = all * 31 + box.parts(0, 1);
            all = all * 31 + box.gains(2, 3, i);
            all = all * 31 + box.play(0);
            all = all * 31 + box.sum(5);
        }
        return all;
    }
}
