import java.io.IOException;
import java.lang.management.ManagementFactory;
import java.lang.reflect.Constructor;
import java.lang.reflect.Field;
import java.lang.reflect.Member;
import java.lang.reflect.Method;
import java.lang.reflect.Modifier;
import java.nio.file.Files;
import java.nio.file.Path;
import java.util.Arrays;
import java.util.Set;
import java.util.TreeSet;
import java.util.regex.Matcher;
import java.util.regex.Pattern;

/** The document's face, the rules of LANGUAGE.md that a text or the class file can show, and the room that calls take. */
public final class RulesTest extends Checks {
    private static final String SOURCE = "src/main/java/OldBeams.java";
    private static final String[] FACE = {
        "int kind(int,int,int)", "int beam(int,int,int,int,int)", "int seat(int,int,int,int,int)", "int about(int,int)",
        "int wet(int,boolean)", "int load(int,int,int)", "int takeOff(int)", "int fall(int)", "long push(int,int)",
        "long bending(int,int)", "long greatest(int,boolean)", "int lifts(int)", "int holds(int,int)", "int needs(int)",
        "int weight(int,int,int)", "int tool(int,int,int)", "int look(int,int,int,int)", "long odds(int,int,int)",
        "int quarrel(int,int)", "int share(int,int,int,boolean)", "int stands(int,int,boolean)", "int until(int,boolean)",
        "long chance(int,int,boolean)", "int weakest(int)", "int chain(int,int)", "int chainAt(int,int,int)",
        "int prop(int,int,int)", "int set(int,boolean)", "int fewest(int)", "int needed(int,int)", "int price(int,int)",
        "long mean(int,int,boolean)", "long worth(int,int,int,boolean)", "int bestLook(int)", "int count(int)"};
    private static final String[] CONSTANTS = {"UNKNOWN", "OUTSIDE", "STATE", "FULL", "NONE"};
    private static final String[] NOT_IN_THE_LANGUAGE = {
        "\\bthrow\\b", "\\btry\\b", "\\bcatch\\b", "\\bsynchronized\\b", "\\bassert\\b", "\\bimport\\b", "\\bpackage\\b",
        "->", "::", "\\bprotected\\b", "Exact\\(", "\\bdouble\\b", "\\bfloat\\b", "\\bvar\\b", "static \\{", "\\bObject\\b",
        "hashCode", "toString", "\\bequals\\b", "System\\.(?!arraycopy\\()", "while \\(true\\)", "for \\(;;"};

    public static void main(String[] args) throws IOException {
        face();
        namesInside();
        words(Files.readString(Path.of(SOURCE)));
        lengths(Files.readString(Path.of(SOURCE)));
        room();
        end("all rules are kept");
    }

    private static String told(Method m) {
        StringBuilder text = new StringBuilder(m.getReturnType().getName()).append(' ').append(m.getName()).append('(');
        for (Class<?> p : m.getParameterTypes()) text.append(text.charAt(text.length() - 1) == '(' ? "" : ",").append(p.getName());
        return text.append(')').toString();
    }

    private static boolean isOpen(Member m) {
        return Modifier.isPublic(m.getModifiers());
    }

    private static boolean isHidden(Member m) {
        return Modifier.isPrivate(m.getModifiers()) || m.isSynthetic();
    }

    private static void face() {
        must(Modifier.isFinal(OldBeams.class.getModifiers()), "the class is final");
        Set<String> open = new TreeSet<>();
        for (Method m : OldBeams.class.getDeclaredMethods()) {
            if (isOpen(m)) open.add(told(m));
            else must(isHidden(m), m.getName() + " is private");
        }
        must(open.equals(new TreeSet<>(Arrays.asList(FACE))), "the public methods are those of the document: " + open);
        Set<String> constants = new TreeSet<>();
        for (Field f : OldBeams.class.getDeclaredFields()) {
            if (isOpen(f)) constants.add(f.getName());
            else must(isHidden(f), f.getName() + " is private");
        }
        must(constants.equals(new TreeSet<>(Arrays.asList(CONSTANTS))), "the public constants are those of the document: " + constants);
        Constructor<?>[] made = OldBeams.class.getDeclaredConstructors();
        must(made.length == 1 && isOpen(made[0]) && made[0].getParameterCount() == 0, "one public constructor");
    }

    private static void namesInside() {
        Set<String> open = new TreeSet<>();
        for (Method m : OldBeams.class.getMethods()) open.add(m.getName());
        Class<?>[] inside = OldBeams.class.getDeclaredClasses();
        must(inside.length <= 12, "at most twelve classes");
        for (Class<?> c : inside) {
            must(Modifier.isStatic(c.getModifiers()), c.getName() + " is static");
            int fields = 0;
            for (Field f : c.getDeclaredFields()) if (!Modifier.isStatic(f.getModifiers())) fields++;
            must(fields <= 20, c.getName() + " has at most twenty fields");
            for (Method m : c.getDeclaredMethods()) {
                must(!open.contains(m.getName()), m.getName() + " inside bears no name of the face");
                must(m.getParameterCount() <= 7, m.getName() + " takes at most seven parameters");
            }
        }
        for (Method m : OldBeams.class.getDeclaredMethods()) {
            if (!isOpen(m)) must(!Arrays.stream(FACE).anyMatch(f -> f.contains(" " + m.getName() + "(")), m.getName() + " bears no name of the face");
        }
    }

    private static String withoutComments(String source) {
        return source.replaceAll("(?s)/\\*.*?\\*/", "").replaceAll("//[^\n]*", "");
    }

    private static void words(String source) {
        String code = withoutComments(source);
        for (String word : NOT_IN_THE_LANGUAGE) {
            Matcher found = Pattern.compile(word).matcher(code);
            must(!found.find(), "the code has no " + word);
        }
        must(source.chars().allMatch(c -> c < 128), "the signs are plain");
    }

    private static void lengths(String source) {
        Matcher head = Pattern.compile("^( +)[A-Za-z].*\\) \\{$").matcher("");
        String[] lines = source.split("\n");
        for (int i = 0; i < lines.length; i++) {
            if (!head.reset(lines[i]).matches() || lines[i].trim().matches("(if|for|while|switch|else).*")) continue;
            int end = i;
            while (end < lines.length && !lines[end].equals(head.group(1) + "}")) end++;
            must(end - i <= 60, "short enough: " + lines[i].trim());
        }
    }

    /** A whole run may make some 7.3 million elements; so an object must be small, and its calls make nothing. */
    private static void room() {
        com.sun.management.ThreadMXBean threads = (com.sun.management.ThreadMXBean) ManagementFactory.getThreadMXBean();
        long self = Thread.currentThread().getId();
        for (int i = 0; i < 20; i++) calls(new OldBeams());
        long start = threads.getThreadAllocatedBytes(self);
        OldBeams x = new OldBeams();
        long made = threads.getThreadAllocatedBytes(self);
        calls(x);
        long called = threads.getThreadAllocatedBytes(self);
        must(made - start < 40_000, "a new object takes little room: " + (made - start) + " bytes");
        must(called - made < 4_000, "the calls take no room: " + (called - made) + " bytes");
    }

    private static void calls(OldBeams x) {
        for (int i = 0; i < 12; i++) {
            x.beam(i % 4, 40, 20, 20, 0);
            if (i > 0) x.seat(i, i % 2, i % 2 * 40, i - 1, 20);
            x.load(i, 17, 500);
            x.prop(i, 17, 100);
            x.tool(i % 4, i % 11, 5);
            x.look(i, i % 4, i % 2, i);
        }
        for (int y = 0; y < 12; y++) {
            x.push(y, 0);
            x.bending(y, 17);
            x.greatest(y, true);
            x.needs(y);
            x.odds(y, 3, y);
            x.quarrel(y, y);
            x.share(y, y, 400, true);
            x.stands(y, 400, true);
            x.until(y, true);
            x.chance(y, y, true);
            x.weakest(y);
            x.chain(y, y);
            x.chainAt(y, y, 3);
            x.set(y % 8, true);
            x.fewest(y);
            x.needed(y, 2);
            x.mean(y, y, true);
            x.worth(y, 1, y, true);
            x.bestLook(y);
            x.count(5);
            x.about(y, 5);
            x.holds(y, 5);
            x.lifts(y);
            x.takeOff(y);
        }
        x.fall(3);
    }
}
