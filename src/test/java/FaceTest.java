import java.lang.reflect.Constructor;
import java.lang.reflect.Field;
import java.lang.reflect.Method;
import java.lang.reflect.Modifier;
import java.util.ArrayList;
import java.util.Arrays;
import java.util.List;
import java.util.TreeSet;

/** The class has the members of the document's face, and shows nobody any other. */
public final class FaceTest {
    private static final String[] FACE = {
        "public LoanLetters()",
        "public static final int LoanLetters.NONE",
        "public static final int LoanLetters.POST",
        "public static final int LoanLetters.LOST",
        "public int LoanLetters.addCopy(int,int) throws IllegalArgumentException,IllegalStateException",
        "public int LoanLetters.request(int,int,int,int) throws IllegalArgumentException,IllegalStateException",
        "public int LoanLetters.act(int,int,int,int) throws IllegalArgumentException,IllegalStateException",
        "public boolean LoanLetters.pass(int)",
        "public int LoanLetters.resend(int,int) throws IllegalArgumentException",
        "public int LoanLetters.letters()",
        "public int LoanLetters.carry(int)",
        "public boolean LoanLetters.drop(int)",
        "public int LoanLetters.letter(int,int)",
        "public int LoanLetters.book(int,int,int)",
        "public int LoanLetters.supplier(int)",
        "public int LoanLetters.holder(int)",
        "public int LoanLetters.promised(int)",
        "public int LoanLetters.balance(int)",
        "public int LoanLetters.queue(int,int)",
        "public boolean LoanLetters.settled(int)",
    };

    private static int wrong = 0;

    public static void main(String[] args) {
        int kind = LoanLetters.class.getModifiers();
        due("public class", Modifier.isPublic(kind), true);
        due("final class", Modifier.isFinal(kind), true);
        TreeSet<String> want = new TreeSet<>(Arrays.asList(FACE));
        TreeSet<String> got = new TreeSet<>(shownMembers());
        due("members " + got + ", due are " + want, got.equals(want), true);
        lookInside();
        System.out.println(wrong == 0 ? "all answers are as due" : wrong + " answers are not as due");
        if (wrong != 0) {
            System.exit(1);
        }
    }

    private static void due(String what, boolean got, boolean want) {
        if (got != want) {
            wrong++;
            System.out.println(what + ": " + got + ", due is " + want);
        }
    }

    private static List<String> shownMembers() {
        List<String> shown = new ArrayList<>();
        for (Constructor<?> c : LoanLetters.class.getDeclaredConstructors()) {
            addIfShown(shown, c.getModifiers(), c.toString());
        }
        for (Field f : LoanLetters.class.getDeclaredFields()) {
            addIfShown(shown, f.getModifiers(), f.toString());
        }
        for (Method m : LoanLetters.class.getDeclaredMethods()) {
            addIfShown(shown, m.getModifiers(), m.toString());
        }
        return shown;
    }

    private static void addIfShown(List<String> shown, int modifiers, String text) {
        if (!Modifier.isPrivate(modifiers)) {
            shown.add(text.replace("java.lang.", ""));
        }
    }

    /** LANGUAGE.md, rules 1, 5 and 11, as far as they can be seen from outside. */
    private static void lookInside() {
        TreeSet<String> faceNames = new TreeSet<>();
        for (Method m : LoanLetters.class.getDeclaredMethods()) {
            if (Modifier.isPublic(m.getModifiers())) {
                faceNames.add(m.getName());
            }
        }
        List<Class<?>> all = new ArrayList<>(Arrays.asList(LoanLetters.class.getDeclaredClasses()));
        due("at most twelve classes", all.size() + 1 <= 12, true);
        for (Class<?> c : all) {
            due(c + " is static", Modifier.isStatic(c.getModifiers()), true);
            due(c + " is hidden", Modifier.isPublic(c.getModifiers()), false);
        }
        all.add(LoanLetters.class);
        for (Class<?> c : all) {
            lookAtMembers(c, faceNames);
        }
    }

    private static void lookAtMembers(Class<?> c, TreeSet<String> faceNames) {
        int kept = 0;
        for (Field f : c.getDeclaredFields()) {
            if (Modifier.isStatic(f.getModifiers())) {
                due(f + " is final", Modifier.isFinal(f.getModifiers()), true);
            } else {
                kept++;
            }
        }
        due(c + " has at most twenty fields", kept <= 20, true);
        for (Method m : c.getDeclaredMethods()) {
            due(m + " has at most seven parameters", m.getParameterCount() <= 7, true);
            if (!Modifier.isPublic(m.getModifiers())) {
                due(m + " bears the name of a public method", faceNames.contains(m.getName()), false);
            }
        }
    }
}
