import java.io.IOException;
import java.lang.reflect.Constructor;
import java.lang.reflect.Field;
import java.lang.reflect.Method;
import java.lang.reflect.Modifier;
import java.nio.file.Files;
import java.nio.file.Path;
import java.util.Arrays;
import java.util.Set;
import java.util.StringJoiner;
import java.util.TreeSet;
import java.util.regex.Matcher;
import java.util.regex.Pattern;

/** The face of the class, what the language's rules ban, and the dearest calls on the greatest problem. */
public final class LanguageRules {
    private static final Path PROGRAM = Path.of("src/main/java/FutureSets.java");
    private static final String BANNED = "\\b(throw|throws|try|catch|synchronized|assert|package|protected|hashCode"
        + "|Thread|Random|Object|\\w+Exact)\\b|::|\\bSystem\\b(?!\\.arraycopy\\b)|\\bimport\\b(?! java\\.util\\.)";
    private static final Set<String> CALLS = Set.of("begin(int, int)", "name(int, int, int)", "budget(int)", "row()",
        "term(int, int, int, int)", "future(int, boolean)", "set(int, int, int)", "told(int)", "comes(int, int, int)",
        "worst(int, int)", "worstName(int, int, int)", "breaks(int)", "safest()", "answer(int, int)", "twoStep()",
        "mean(int, int)", "best(int)", "regret(int)", "calmest()", "waiting(int)", "chance(int, int)");
    private static int wrong = 0;

    public static void main(String[] args) throws IOException {
        face();
        classesInside();
        bannedWords();
        dearestCalls();
        System.out.println(wrong == 0 ? "the language's rules are kept" : wrong + " rules are not kept");
        if (wrong != 0) System.exit(1);
    }

    private static void say(String what) {
        wrong++;
        System.out.println(what);
    }

    private static void face() {
        int kind = FutureSets.class.getModifiers();
        if (!Modifier.isPublic(kind) || !Modifier.isFinal(kind)) say("rule 1: the class is not public and final");
        Constructor<?>[] constructors = FutureSets.class.getDeclaredConstructors();
        boolean asTold = constructors.length == 1 && Modifier.isPublic(constructors[0].getModifiers())
            && constructors[0].getParameterCount() == 0;
        if (!asTold) say("rule 1: the constructors are " + Arrays.toString(constructors));
        Set<String> seen = new TreeSet<>();
        for (Method each : FutureSets.class.getDeclaredMethods()) {
            methodRules(each);
            boolean open = Modifier.isPublic(each.getModifiers());
            if (!open && !Modifier.isPrivate(each.getModifiers())) say("rule 1: neither public nor private: " + each);
            if (!open) continue;
            seen.add(callOf(each));
            boolean ofAnObject = !Modifier.isStatic(each.getModifiers());
            if (each.getReturnType() != int.class || !ofAnObject) say("rule 1: not an int of an object: " + each);
        }
        if (!seen.equals(new TreeSet<>(CALLS))) say("rule 1: the face is " + seen);
        for (Field each : FutureSets.class.getDeclaredFields()) {
            boolean open = Modifier.isPublic(each.getModifiers());
            if (open != Set.of("BAD", "FULL", "NONE").contains(each.getName())) say("rule 1: " + each);
            if (!open && !Modifier.isPrivate(each.getModifiers())) say("rule 1: " + each);
            if (Modifier.isStatic(each.getModifiers()) && !Modifier.isFinal(each.getModifiers())) say("rule 5: " + each);
        }
    }

    private static void classesInside() {
        for (Class<?> each : FutureSets.class.getDeclaredClasses()) {
            if (!Modifier.isStatic(each.getModifiers())) say("rule 2: not static: " + each);
            if (Modifier.isPublic(each.getModifiers())) say("rule 1: public: " + each);
            for (Method method : each.getDeclaredMethods()) methodRules(method);
        }
    }

    private static String callOf(Method method) {
        StringJoiner types = new StringJoiner(", ", method.getName() + "(", ")");
        for (Class<?> each : method.getParameterTypes()) types.add(each.getName());
        return types.toString();
    }

    private static boolean isNamedAsACall(Method method) {
        for (String each : CALLS) {
            if (each.startsWith(method.getName() + "(")) return true;
        }
        return false;
    }

    private static void methodRules(Method method) {
        boolean closed = Modifier.isPrivate(method.getModifiers());
        if (closed && isNamedAsACall(method)) say("rule 1: private with a public one's name: " + method);
        if (method.getParameterCount() > 7) say("rule 11: over seven parameters: " + method);
        if (method.getName().startsWith("lambda$")) say("rule 2: a lambda: " + method);
    }

    private static void bannedWords() throws IOException {
        String code = Files.readString(PROGRAM).replaceAll("(?s)/\\*.*?\\*/", " ").replaceAll("//[^\n]*", " ");
        Matcher found = Pattern.compile(BANNED).matcher(code);
        while (found.find()) say("rules 3, 4, 6: the program has '" + found.group() + "'");
    }

    private static FutureSets greatestProblem() {
        FutureSets x = new FutureSets();
        x.begin(6, 4);
        for (int i = 0; i < 12; i++) x.name(-100, i, 100);
        x.budget(6);
        for (int i = 0; i < 10; i++) x.row();
        for (int i = 0; i < 40; i++) x.term(i % 11 - 1, i % 12 - 2, i % 13 - 1, -20);
        for (int i = 0; i < 8; i++) x.future(100 - i, false);
        return x;
    }

    /** A whole run of the dearest calls: it ends, and always with the same answers. */
    private static void dearestCalls() {
        FutureSets x = greatestProblem();
        int[] before = null;
        for (int i = 0; i < 80; i++) {
            int[] now = {x.safest(), x.twoStep(), x.calmest(), x.waiting(0), x.regret(0)};
            for (int j = 0; before != null && j < now.length; j++) {
                if (now[j] != before[j]) say("rule 13: asked again, call " + j + " answers " + now[j]);
            }
            before = now;
        }
    }
}
