import com.sun.management.ThreadMXBean;
import java.io.IOException;
import java.lang.management.ManagementFactory;
import java.lang.reflect.Constructor;
import java.lang.reflect.Field;
import java.lang.reflect.Method;
import java.lang.reflect.Modifier;
import java.nio.file.Files;
import java.nio.file.Path;
import java.util.Arrays;
import java.util.Set;
import java.util.TreeSet;
import java.util.regex.Matcher;
import java.util.regex.Pattern;

/** The public face is the document's and no more; the source keeps to LANGUAGE.md where a test can tell. */
public final class FaceTest {
    private static final Set<String> FACE = new TreeSet<>(Arrays.asList(
            "tank(int,int,int)", "neighbours(int,int,boolean)", "latest(int,int,int)",
            "cargo(int,int,int,int,int,int)", "uncargo()", "amount(int,int)",
            "washes(int,int,int)", "bound(int)", "ofTank(int,int)", "ofCargo(int,int)",
            "needs(int,int)", "why(int,int)", "plan(int,int)", "broken(int)", "ofPlan(int)",
            "best(int,int)", "taken()", "load()", "unload(int)", "pour(int,int,int)",
            "many(int)"));
    private static final Set<String> CONSTANTS = new TreeSet<>(Arrays.asList(
            "UNKNOWN", "OUTSIDE", "STATE", "FULL", "NONE"));
    private static final String[] RULED_OUT = {"throw", "throws", "try", "catch", "finally",
        "synchronized", "assert", "import", "package", "->", "::", "hashCode", "toString",
        "equals", "Exact", "System", "Thread", "Random"};

    private static int wrong = 0;

    private FaceTest() {
    }

    public static void main(String[] args) throws IOException {
        members();
        innerClasses();
        source();
        callsMakeNothing();
        System.out.println(wrong == 0 ? "the face is as due" : wrong + " things are not as due");
        if (wrong != 0) {
            System.exit(1);
        }
    }

    private static void check(boolean holds, String what) {
        if (!holds) {
            wrong++;
            System.out.println("not as due: " + what);
        }
    }

    private static void members() {
        Set<String> methods = new TreeSet<>();
        for (Method m : CargoTanks.class.getDeclaredMethods()) {
            boolean open = Modifier.isPublic(m.getModifiers());
            check(open || Modifier.isPrivate(m.getModifiers()), m + " is public or private");
            check(open || FACE.stream().noneMatch(f -> f.startsWith(m.getName() + "(")),
                    m + " bears the name of a public method");
            if (open) {
                check(m.getReturnType() == int.class, m + " answers an int");
                methods.add(m.getName() + Arrays.toString(m.getParameterTypes())
                        .replace("[", "(").replace("]", ")").replace(" ", ""));
            }
            check(m.getParameterCount() <= 7, m + " has at most seven parameters");
        }
        check(methods.equals(FACE), "methods " + methods);
        Set<String> constants = new TreeSet<>();
        for (Field f : CargoTanks.class.getDeclaredFields()) {
            boolean open = Modifier.isPublic(f.getModifiers());
            check(open || Modifier.isPrivate(f.getModifiers()), f + " is public or private");
            if (open) {
                constants.add(f.getName());
            }
        }
        check(constants.equals(CONSTANTS), "constants " + constants);
        Constructor<?>[] made = CargoTanks.class.getDeclaredConstructors();
        check(made.length == 1 && made[0].getParameterCount() == 0
                && Modifier.isPublic(made[0].getModifiers()), "one public constructor");
        int kind = CargoTanks.class.getModifiers();
        check(Modifier.isPublic(kind) && Modifier.isFinal(kind), "public and final");
    }

    private static void innerClasses() {
        Class<?>[] all = CargoTanks.class.getDeclaredClasses();
        check(all.length <= 12, "some twelve classes: " + all.length);
        fields(CargoTanks.class);
        for (Class<?> inner : all) {
            fields(inner);
            check(Modifier.isStatic(inner.getModifiers()), inner + " is static");
            check(!Modifier.isPublic(inner.getModifiers()), inner + " is not public");
            for (Method m : inner.getDeclaredMethods()) {
                check(FACE.stream().noneMatch(f -> f.startsWith(m.getName() + "(")),
                        m + " bears the name of a public method");
            }
        }
    }

    /** At most some twenty beside the constants, which are final and plain. */
    private static void fields(Class<?> of) {
        int count = 0;
        for (Field f : of.getDeclaredFields()) {
            boolean constant = Modifier.isStatic(f.getModifiers());
            count += constant ? 0 : 1;
            check(!constant || Modifier.isFinal(f.getModifiers()), f + " is final");
            check(!constant || f.getType() == int.class, f + " is an int");
            check(constant || Modifier.isPrivate(f.getModifiers()), f + " is private");
        }
        check(count <= 20, of + " has some twenty fields: " + count);
    }

    private static void source() throws IOException {
        String text = Files.readString(Path.of("src/main/java/CargoTanks.java"));
        check(text.chars().allMatch(c -> c < 128), "plain signs alone");
        String code = text.replaceAll("(?s)/\\*.*?\\*/", "").replaceAll("//[^\n]*", "");
        for (String word : RULED_OUT) {
            String sought = Character.isLetter(word.charAt(0)) ? "\\b" + word + "\\b" : word;
            Matcher found = Pattern.compile(sought).matcher(code);
            check(!found.find(), "'" + word + "' stands in the source");
        }
        longMethods(code);
    }

    private static void longMethods(String code) {
        int begun = 0;
        String[] lines = code.split("\n", -1);
        for (int k = 0; k < lines.length; k++) {
            if (lines[k].matches("( {4}| {8})(public|private) .*\\) \\{")) {
                begun = k;
            }
            if (lines[k].matches("( {4}| {8})}")) {
                check(k - begun < 60, "short method at line " + (begun + 1));
            }
        }
    }

    /** All calls of a run share one room: rows are made by the constructor, and used again. */
    private static void callsMakeNothing() {
        ThreadMXBean threads = (ThreadMXBean) ManagementFactory.getThreadMXBean();
        long spent = 0;
        for (int round = 0; round < 3; round++) {
            CargoTanks x = new CargoTanks();
            long before = threads.getThreadAllocatedBytes(Thread.currentThread().getId());
            busyRun(x);
            spent = threads.getThreadAllocatedBytes(Thread.currentThread().getId()) - before;
        }
        check(spent < 2000, "512 calls make no objects: " + spent + " bytes");
    }

    private static void busyRun(CargoTanks x) {
        for (int t = 0; t < 6; t++) {
            x.tank(10, 0, t - 3);
        }
        for (int c = 0; c < 4; c++) {
            x.cargo(c, 12, 15, 0, 0, 0);
        }
        for (int k = 0; k < 45; k++) {
            x.amount(3, 5 + k % 9);
            x.taken();
            x.load();
            x.pour(0, 1, 1);
            x.best(7, 3);
            x.broken(15);
            x.ofPlan(2);
            for (int c = 0; c < 4; c++) {
                x.unload(c);
            }
        }
    }
}
