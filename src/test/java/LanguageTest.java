import java.io.IOException;
import java.lang.reflect.Constructor;
import java.lang.reflect.Field;
import java.lang.reflect.InvocationTargetException;
import java.lang.reflect.Method;
import java.lang.reflect.Modifier;
import java.nio.file.Files;
import java.nio.file.Path;
import java.util.Arrays;
import java.util.Set;
import java.util.TreeSet;
import java.util.regex.Matcher;
import java.util.regex.Pattern;

/** The public face, and the rules of LANGUAGE.md that a look at the class and its text can tell. */
public final class LanguageTest extends Check {
    private static final String[] FACE = {
        "int aqueduct(int)", "int spring(int,int,int)", "int castle(int,int,int)", "int person()",
        "int death(int,int,int)", "int nozzle(int,int,int,int)", "int shut(int)",
        "int tap(int,int,int,int)", "int repair(int,int,int)", "int go(int)",
        "int feed(int,int,int,int,int)", "int end(int)", "int laws()", "int fault()",
        "int law(int,int)", "int lives(int,int,int)", "int gets(int,int,int)",
        "int at(int,int,int,int)", "int dry(int,int,int)", "int found(int,int)",
        "int best(int,int,int,int)", "long rent(int,int)", "long fines(int)", "int dead(int,int)",
        "int count(int)", "int status()",
    };
    private static int wrong = 0;

    private static void due(String what, boolean holds) {
        if (!holds) {
            wrong++;
            System.out.println("does not hold: " + what);
        }
    }

    private static String signature(Method m) {
        StringBuilder s = new StringBuilder(m.getReturnType().getName()).append(' ').append(m.getName()).append('(');
        for (int i = 0; i < m.getParameterCount(); i++) {
            s.append(i == 0 ? "" : ",").append(m.getParameterTypes()[i].getName());
        }
        return s.append(')').toString();
    }

    private static void face() {
        Set<String> open = new TreeSet<>();
        Set<String> names = new TreeSet<>();
        for (Method m : WaterOffice.class.getDeclaredMethods()) {
            if (!Modifier.isPrivate(m.getModifiers())) {
                open.add(signature(m));
                names.add(m.getName());
                due(m + " is public alone", m.getModifiers() == Modifier.PUBLIC);
            }
        }
        due("the methods are the document's: " + open, open.equals(new TreeSet<>(Set.of(FACE))));
        for (Field f : WaterOffice.class.getDeclaredFields()) {
            due(f + " is private", Modifier.isPrivate(f.getModifiers()) || f.getName().equals("NONE"));
        }
        Constructor<?>[] made = WaterOffice.class.getDeclaredConstructors();
        due("one constructor", made.length == 1 && made[0].getParameterCount() == 0
                && made[0].getModifiers() == Modifier.PUBLIC);
        due("public and final", WaterOffice.class.getModifiers() == (Modifier.PUBLIC | Modifier.FINAL));
        inside(names);
    }

    private static void inside(Set<String> names) {
        Class<?>[] inside = WaterOffice.class.getDeclaredClasses();
        due("at most twelve classes", inside.length < 12);
        for (Class<?> c : inside) {
            due(c + " is static, private or package-visible", Modifier.isStatic(c.getModifiers())
                    && !Modifier.isPublic(c.getModifiers()) && !Modifier.isProtected(c.getModifiers()));
            int fields = 0;
            for (Field f : c.getDeclaredFields()) {
                fields += Modifier.isStatic(f.getModifiers()) ? 0 : 1;
            }
            due(c + " has at most twenty fields", fields <= 20);
            for (Method m : c.getDeclaredMethods()) {
                due(m + " has a name of its own", !names.contains(m.getName()));
                due(m + " has at most seven parameters", m.getParameterCount() <= 7);
            }
        }
    }

    private static void text() throws IOException {
        String text = Files.readString(Path.of("src/main/java/WaterOffice.java"));
        due("no byte above 126", text.chars().allMatch(c -> c == '\n' || c >= 32 && c <= 126));
        String code = text.replaceAll("(?s)/\\*.*?\\*/", "").replaceAll("//[^\n]*", "");
        for (String word : new String[] {"throw", "throws", "try", "catch", "finally", "synchronized", "assert",
            "package", "hashCode", "protected", "Object", "System.out", "Random", "Thread"}) {
            due("no " + word, !Pattern.compile("\\b" + Pattern.quote(word) + "\\b").matcher(code).find());
        }
        due("none that ends in Exact", !Pattern.compile("\\w+Exact\\b").matcher(code).find());
        due("no other library", !Pattern.compile("\\bjava(x?)\\.(?!util\\.(ArrayList|List|Arrays|Iterator)\\b)")
                .matcher(code).find());
        due("no lambda", !Pattern.compile("(?m)^(?!\\s*(case|default)\\b).*->").matcher(code).find());
        due("no method reference", !code.contains("::"));
        due("no loop without an end", !code.contains("while (true)") && !code.contains("for (;"));
        methodsAreShort(text);
    }

    /** All calls of a run share a room of 7.3 million elements: the dearest calls have to fit in. */
    private static void room() {
        com.sun.management.ThreadMXBean threads =
                (com.sun.management.ThreadMXBean) java.lang.management.ManagementFactory.getThreadMXBean();
        long before = threads.getCurrentThreadAllocatedBytes();
        WaterOffice x = new WaterOffice();
        x.aqueduct(100000);
        for (int i = 0; i < 12; i++) {
            x.castle(i == 0 ? 0 : 100, 1000, 1);
        }
        x.person();
        for (int i = 0; i < 80; i++) {
            x.nozzle(i % 12, 1000, i % 3, 0);
        }
        laws(x, "from 0 rent 1; from 0 fine 1");
        goTo(x, 200);
        for (int i = 0; i < 100; i++) {
            x.best(i % 12, 10, 0, 191);
            x.rent(0, i);
            x.fines(i % 12);
            x.found(i % 12, i);
        }
        long bytes = threads.getCurrentThreadAllocatedBytes() - before;
        due("512 calls make less than the room holds, not " + bytes + " bytes", bytes < 4 * 7300000L);
    }

    /** No call may ever throw: each one with each choice of numbers far and near, in both a new and a full office. */
    private static void anyArguments() throws IllegalAccessException {
        int[] numbers = {SMALL, -1, 0, 1, 7, 11, 79, 100, 111, 200, 201, BIG};
        for (Method m : WaterOffice.class.getDeclaredMethods()) {
            if (!Modifier.isPublic(m.getModifiers())) {
                continue;
            }
            int choices = (int) Math.pow(numbers.length, Math.min(4, m.getParameterCount()));
            WaterOffice x = null;
            for (int choice = 0; choice < 2 * choices; choice++) {
                if (choice % 150 == 0 || choice == choices) {
                    x = choice < choices ? new WaterOffice() : fullOffice();
                }
                Object[] arguments = new Object[m.getParameterCount()];
                for (int i = 0, rest = choice % choices; i < arguments.length; i++, rest /= numbers.length) {
                    arguments[i] = numbers[rest % numbers.length];
                }
                callOnce(x, m, arguments);
            }
        }
    }

    private static void callOnce(WaterOffice x, Method m, Object[] arguments) throws IllegalAccessException {
        try {
            m.invoke(x, arguments);
        } catch (InvocationTargetException e) {
            due(m.getName() + Arrays.toString(arguments) + " does not throw " + e.getCause(), false);
        }
    }

    private static WaterOffice fullOffice() {
        WaterOffice x = new WaterOffice();
        for (int i = 0; i < 4; i++) {
            x.aqueduct(100000);
        }
        for (int i = 0; i < 12; i++) {
            x.castle(i < 4 ? i : 96 + i, 100000, 1000 * (i % 2));
        }
        for (int i = 0; i < 40; i++) {
            x.person();
            x.repair(i % 12, i, i + 100);
        }
        for (int i = 0; i < 60; i++) {
            x.spring(i % 4, i, 0);
            x.tap(i % 12, 10000, i, 200);
        }
        for (int i = 0; i < 80; i++) {
            x.nozzle(i % 12, 1000, i % 3, i % 8);
        }
        laws(x, "from0rent1;".repeat(29) + "from0fine1");
        return x;
    }

    private static void methodsAreShort(String text) {
        Matcher m = Pattern.compile("(?m)^( {4,8})(?!\\s|/|\\}|private static final class)[^;=\n]*\\)[^;]*?\\{\n(?s:.*?)^\\1\\}$").matcher(text);
        int methods = 0;
        while (m.find()) {
            methods++;
            due("at most sixty lines: " + m.group().strip().split("\n")[0], m.group().split("\n").length <= 60);
        }
        due("methods were found: " + methods, methods > 26);
    }

    public static void main(String[] args) throws IOException, IllegalAccessException {
        face();
        text();
        room();
        anyArguments();
        System.out.println(wrong == 0 ? "all rules hold" : wrong + " rules do not hold");
        if (wrong != 0) {
            System.exit(1);
        }
    }
}
