import java.lang.reflect.InvocationTargetException;
import java.lang.reflect.Method;
import java.util.Arrays;
import java.util.Comparator;

/** Counts the answers that are not as due, and prints each with the part of the document that asks for it. */
class Checks {
    /** What a call that throws counts as, where answers are compared as numbers. */
    static final int BAD_ARGUMENT = -1_000_001, NOT_NOW = -1_000_002, OTHER_THROW = -1_000_003;

    private static int wrong = 0;
    private static int asked = 0;
    private static String test = "";
    private static String part = "";

    interface Call {
        int run();
    }

    static void part(String name) {
        part = name;
    }

    static void due(String call, int got, int want) {
        asked++;
        if (got != want) {
            wrong(call + " answered " + shown(got) + ", due is " + shown(want));
        }
    }

    static void due(String call, boolean got, boolean want) {
        due(call, got ? 1 : 0, want ? 1 : 0);
    }

    static void badArgument(String call, Call it) {
        due(call, answer(it), BAD_ARGUMENT);
    }

    static void notNow(String call, Call it) {
        due(call, answer(it), NOT_NOW);
    }

    static int answer(Call it) {
        try {
            return it.run();
        } catch (RuntimeException e) {
            if (e.getClass() == IllegalArgumentException.class) {
                return BAD_ARGUMENT;
            }
            return e.getClass() == IllegalStateException.class ? NOT_NOW : OTHER_THROW;
        }
    }

    static void wrong(String what) {
        wrong++;
        System.out.println(test + ", " + part + ": " + what);
    }

    /**
     * Runs each method of the class that takes and answers nothing, so that none is forgotten. Each must ask for
     * something, and one that breaks off doesn't keep the others from running.
     */
    static void runTestsOf(Class<?> tests) {
        Method[] methods = tests.getDeclaredMethods();
        Arrays.sort(methods, Comparator.comparing(Method::getName));
        for (Method method : methods) {
            boolean isTest = method.getParameterCount() == 0 && method.getReturnType() == void.class;
            if (isTest && !method.isSynthetic()) {
                runOne(method);
            }
        }
        if (asked == 0) {
            wrong("no test was run");
        }
        System.out.println(wrong == 0 ? "all answers are as due" : wrong + " answers are not as due");
        if (wrong != 0) {
            System.exit(1);
        }
    }

    private static void runOne(Method method) {
        int before = asked;
        test = method.getName();
        part = "before its part was named";
        try {
            method.setAccessible(true);
            method.invoke(null);
        } catch (InvocationTargetException e) {
            wrong("broke off by " + e.getCause());
        } catch (IllegalAccessException e) {
            wrong("can't be run");
        }
        if (asked == before) {
            wrong("asked nothing");
        }
    }

    private static String shown(int answer) {
        switch (answer) {
            case BAD_ARGUMENT: return "throws.IllegalArgumentException";
            case NOT_NOW: return "throws.IllegalStateException";
            case OTHER_THROW: return "throws something else";
            default: return "" + answer;
        }
    }
}
