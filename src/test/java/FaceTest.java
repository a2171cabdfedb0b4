import com.sun.management.ThreadMXBean;
import java.io.IOException;
import java.lang.management.ManagementFactory;
import java.lang.reflect.Field;
import java.lang.reflect.Method;
import java.lang.reflect.Modifier;
import java.nio.file.Files;
import java.nio.file.Path;
import java.util.Arrays;
import java.util.Set;
import java.util.TreeSet;
import java.util.regex.Matcher;
import java.util.regex.Pattern;
import java.util.stream.Collectors;

/** The class from outside: its members, the Java that it is written in, the room that its calls take. */
public final class FaceTest {
    static final String[] FACE = {
        "int feed(int)", "int end(int)", "int text()", "int fault()", "int rule(int)", "int colour(int,int)",
        "int one(int,int)", "int holds(int,int)", "int off(int,int)", "int alter(int,int,int)", "int pay(int,int,int)",
        "int lend(int,int,int)", "int bring(int,int,int)", "int days(int)", "int runs(int,int)",
        "int ahead(int,int,int)", "int lasts(int)", "int mix(int,int,int)", "int cheap(int,int,int)",
        "int more(int,int)", "int swap(int)", "int shed(int,int)", "int need(int,int)", "int kind(int,int,int)",
        "long luck(int,int,int,int,int)", "long mean(int,int,int)", "int see(int,int,int)", "int forget(int)",
        "int kinds(int)", "int drops(int,int)", "int ask(int,int)", "int drift(int,int,int)", "int keep(int)",
        "int back(int)", "int sheet(int,int,int)", "int lay(int,int,int)", "int read(int,int,int,int)", "int torn()",
        "int count(int)"};
    static final String[] FORBIDDEN = {"throw", "throws", "try", "catch", "synchronized", "assert", "import", "package",
        "protected", "transient", "volatile", "native", "var", "goto", "strictfp", "yield"};

    static int wrong;

    public static void main(String[] args) throws IOException {
        members();
        privateNames();
        staticFields(HueLease.class);
        for (Class<?> inside : HueLease.class.getDeclaredClasses()) {
            staticFields(inside);
        }
        String source = Files.readString(Path.of("src/main/java/HueLease.java"));
        words(source);
        methodsAreShort(source);
        room();
        System.out.println(wrong == 0 ? "the face is as told" : wrong + " things are not as told");
        if (wrong != 0) {
            System.exit(1);
        }
    }

    static void check(boolean fine, String what) {
        if (!fine) {
            wrong++;
            System.out.println("not as told: " + what);
        }
    }

    static void members() {
        Class<?> c = HueLease.class;
        check(Modifier.isFinal(c.getModifiers()) && Modifier.isPublic(c.getModifiers()), "public final class");
        Set<String> methods = new TreeSet<>();
        for (Method m : c.getDeclaredMethods()) {
            if (!Modifier.isPrivate(m.getModifiers())) {
                methods.add(m.getReturnType() + " " + m.getName() + Arrays.stream(m.getParameterTypes())
                    .map(Class::getName).collect(Collectors.joining(",", "(", ")")));
                check(m.getModifiers() == Modifier.PUBLIC, "modifiers of " + m);
            }
        }
        check(methods.equals(new TreeSet<>(Arrays.asList(FACE))), "methods " + methods);
        check(c.getDeclaredConstructors().length == 1 && c.getConstructors().length == 1, "one constructor");
        Set<String> constants = new TreeSet<>();
        for (Field f : c.getDeclaredFields()) {
            boolean shown = !Modifier.isPrivate(f.getModifiers());
            check(!shown || f.getModifiers() == (Modifier.PUBLIC | Modifier.STATIC | Modifier.FINAL), "field " + f);
            if (shown) {
                constants.add(f.getName());
            }
        }
        check(constants.equals(Set.of("BAD", "STATE", "FULL", "NONE")), "constants " + constants);
        for (Class<?> inside : c.getDeclaredClasses()) {
            check(Modifier.isStatic(inside.getModifiers()), "static " + inside);
        }
        check(c.getDeclaredClasses().length <= 12, "twelve classes");
    }

    static void privateNames() {
        Set<String> names = new TreeSet<>();
        for (Method m : HueLease.class.getMethods()) {
            names.add(m.getName());
        }
        for (Class<?> inside : HueLease.class.getDeclaredClasses()) {
            for (Method m : inside.getDeclaredMethods()) {
                check(!names.contains(m.getName()), "a name of its own for " + m);
                check(m.getParameterCount() <= 7, "seven parameters of " + m);
            }
            check(countFields(inside) <= 20, "twenty fields of " + inside);
        }
        for (Method m : HueLease.class.getDeclaredMethods()) {
            check(!Modifier.isPrivate(m.getModifiers()) || !names.contains(m.getName()), "a name of its own for " + m);
        }
        check(countFields(HueLease.class) <= 20, "twenty fields");
    }

    /** LANGUAGE.md, rule 5: no static state. */
    static void staticFields(Class<?> c) {
        Set<Class<?>> constants = Set.of(int.class, long.class, boolean.class, char.class, String.class,
            int[].class, long[].class, char[].class, byte[].class);
        for (Field f : c.getDeclaredFields()) {
            if (Modifier.isStatic(f.getModifiers())) {
                check(Modifier.isFinal(f.getModifiers()) && constants.contains(f.getType()), "a constant: " + f);
            }
        }
    }

    static long countFields(Class<?> c) {
        return Arrays.stream(c.getDeclaredFields()).filter(f -> !Modifier.isStatic(f.getModifiers())).count();
    }

    static void words(String source) {
        String code = source.replaceAll("(?s)/\\*.*?\\*/", " ").replaceAll("//[^\n]*", " ").replaceAll("\"[^\"\n]*\"", "\"\"");
        for (String word : FORBIDDEN) {
            check(!Pattern.compile("\\b" + word + "\\b").matcher(code).find(), "no word " + word);
        }
        check(!code.contains("->") && !code.contains("::"), "no lambda, no method reference");
        check(!Pattern.compile("static\\s*\\{").matcher(code).find(), "no static block");
        check(!Pattern.compile("\\b(double|float)\\b").matcher(code).find(), "no fractions with a point");
        check(source.chars().allMatch(s -> s == '\n' || s >= ' ' && s < 127), "plain signs");
        Matcher library = Pattern.compile("\\b(Math|System|Integer|Long|Arrays)\\.(\\w+)").matcher(code);
        while (library.find()) {
            check(Set.of("min", "max", "abs", "arraycopy", "bitCount").contains(library.group(2)), "library " + library.group());
        }
    }

    static void methodsAreShort(String source) {
        String[] lines = source.split("\n");
        int start = -1;
        for (int i = 0; i < lines.length; i++) {
            if (lines[i].matches(" {4,8}\\S[^=;]*\\) \\{") && start < 0) {
                start = i;
            } else if (start >= 0 && lines[i].matches(" {4,8}\\}")
                    && lines[i].indexOf('}') == lines[start].length() - lines[start].stripLeading().length()) {
                check(i - start <= 60, "sixty lines from " + (start + 1));
                start = -1;
            }
        }
    }

    /** All calls of a run share one room: only a new object may take some of it. */
    static void room() {
        HueLease x = new HueLease();
        int sum = dearCalls(x);
        ThreadMXBean bean = (ThreadMXBean) ManagementFactory.getThreadMXBean();
        long id = Thread.currentThread().getId();
        bean.getThreadAllocatedBytes(id);
        long before = bean.getThreadAllocatedBytes(id);
        long asking = bean.getThreadAllocatedBytes(id) - before;
        before = bean.getThreadAllocatedBytes(id);
        for (int i = 0; i < 100; i++) {
            sum += dearCalls(x);
        }
        long taken = bean.getThreadAllocatedBytes(id) - before - asking;
        check(taken < 4096, "room of the calls: " + taken + " bytes");
        before = bean.getThreadAllocatedBytes(id);
        sum += new HueLease().rule(0);
        taken = bean.getThreadAllocatedBytes(id) - before - asking;
        check(taken < 16384, "room of an object: " + taken + " bytes");
        check(sum != 1, "a sum that keeps the calls from being left out");
    }

    static int dearCalls(HueLease x) {
        String text = "plain 9 1 0 30;lasting 0 7 8 9;royal 6 0 9 4;fugitive 9 9 9 50;one 60 20;one 15 9;lent 0 0 8;";
        for (int i = 0; i < text.length(); i++) {
            x.feed(text.charAt(i));
        }
        int sum = x.text() + x.runs(60, 0) + x.ahead(0, 60, 0) + x.lasts(0) + x.mix(500, 6, 0) + x.cheap(500, 9, 6);
        sum += x.more(0, 0) + x.swap(0) + x.shed(0, 0) + x.need(0, 60) + x.kind(0, 60, 0);
        sum += (int) (x.luck(3, 0, 8, 0, 0) + x.mean(3, 8, 0)) + x.see(20, 0, 0) + x.kinds(0) + x.drops(0, 0);
        sum += x.ask(0, 0) + x.drift(7, 60, 0) + x.keep(0) + x.days(30) + x.back(0);
        return sum + x.sheet(0, 2, 40) + x.lay(0, 2, 1) + x.read(0, 2, 0, 13) + x.count(0) + x.one(0, 2);
    }
}
