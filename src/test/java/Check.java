import java.lang.annotation.Retention;
import java.lang.annotation.RetentionPolicy;
import java.lang.reflect.InvocationTargetException;
import java.lang.reflect.Method;
import java.util.ArrayList;
import java.util.Comparator;
import java.util.List;

/** What the tests share: answers held against those that are due, and texts put on the tape. */
abstract class Check {
    static final int NONE = WaterOffice.NONE;
    static final int BIG = Integer.MAX_VALUE;
    static final int SMALL = Integer.MIN_VALUE;
    static final int[] NO_YEARS = {-1, 201, BIG, SMALL};

    /** A test of one sentence of the document: where it stands, and its words. */
    @Retention(RetentionPolicy.RUNTIME)
    @interface Sentence {
        String value();
    }

    private static int looks = 0;
    private static int wrong = 0;
    private static String part = "";

    static void part(String name) {
        part = name;
    }

    static void due(String call, long got, long want) {
        looks++;
        if (got != want) {
            fail(call + " answered " + got + ", due is " + want);
        }
    }

    static void fail(String what) {
        wrong++;
        System.out.println(part + ": " + what);
    }

    /** Runs each test of a sentence, and wants at least one answer to be looked at in it. */
    static void runSentences(Class<?> tests) {
        List<Method> methods = new ArrayList<>();
        for (Method m : tests.getDeclaredMethods()) {
            if (m.isAnnotationPresent(Sentence.class)) {
                methods.add(m);
            }
        }
        methods.sort(Comparator.comparing(Method::getName));
        for (Method m : methods) {
            runSentence(m);
        }
        System.out.println(methods.size() + " sentences");
        finish();
    }

    private static void runSentence(Method test) {
        part(test.getName() + " [" + test.getAnnotation(Sentence.class).value() + "]");
        int before = looks;
        try {
            test.invoke(null);
        } catch (InvocationTargetException e) {
            fail("the class threw " + e.getCause());
        } catch (IllegalAccessException e) {
            fail("the test can't be called");
        }
        if (looks == before) {
            fail("no answer was looked at");
        }
    }

    static void finish() {
        System.out.println(wrong == 0 ? "all answers are as due" : wrong + " answers are not as due");
        if (wrong != 0) {
            System.exit(1);
        }
    }

    /** Puts a text behind the tape; behind it stand bytes that are cut off again. */
    static void write(WaterOffice x, String text) {
        int first = x.count(9);
        int[] n = new int[5];
        for (int i = 0; i < text.length(); i += 20) {
            for (int j = 0; j < 20; j++) {
                n[j / 4] = n[j / 4] << 8 | (i + j < text.length() ? text.charAt(i + j) : 'z');
            }
            due("feed", x.feed(n[0], n[1], n[2], n[3], n[4]), first + i + 20);
        }
        due("end", x.end(first + text.length()), first + text.length());
    }

    static int laws(WaterOffice x, String text) {
        write(x, text);
        return x.laws();
    }

    static WaterOffice goTo(WaterOffice x, int year) {
        while (x.count(0) < year) {
            x.go(Math.min(50, year - x.count(0)));
        }
        return x;
    }

    /** A new office with an aqueduct of so much water, one castle that loses none, and one person. */
    static WaterOffice office(int water) {
        WaterOffice x = new WaterOffice();
        x.aqueduct(water);
        x.castle(0, 100000, 0);
        x.person();
        return x;
    }

    static void goodText(String text, int want) {
        WaterOffice x = new WaterOffice();
        due("laws of \"" + text + "\"", laws(x, text), want);
        due("fault of \"" + text + "\"", x.fault(), NONE);
        due("count(8) of \"" + text + "\"", x.count(8), want);
        due("status of \"" + text + "\"", x.status(), 0);
        due("count(9) of \"" + text + "\"", x.count(9), 0);
    }

    static void badText(String text, int place) {
        WaterOffice x = new WaterOffice();
        laws(x, "from 3 rent 4");
        due("laws of \"" + text + "\"", laws(x, text), -6);
        due("fault of \"" + text + "\"", x.fault(), place);
        due("status of \"" + text + "\"", x.status(), -6);
        due("count(8) behind \"" + text + "\"", x.count(8), 1);
        due("count(9) behind \"" + text + "\"", x.count(9), 0);
        due("law(3, 2) behind \"" + text + "\"", x.law(3, 2), 4);
    }
}
