import java.io.IOException;
import java.lang.reflect.Method;
import java.lang.reflect.Modifier;
import java.nio.file.Files;
import java.nio.file.Path;
import java.util.HashMap;
import java.util.HashSet;
import java.util.Map;
import java.util.Set;
import java.util.regex.Matcher;
import java.util.regex.Pattern;

/** Makes the calls of README.md's example, line by line, and looks at each answer that it tells; and at its table. */
public final class ReadmeExample {
    private static final Path README = Path.of("README.md");
    private static final Pattern CALL =
        Pattern.compile("(?:int (\\w+) = )?x\\.(\\w+)\\(([^)]*)\\);\\s*(?://(?: -> (-?\\w+))?.*)?");
    private static final Pattern TABLE_CALL = Pattern.compile("(?m)^\\| `(\\w+)\\(([^)]*)\\)` \\|");
    private static int wrong = 0;

    public static void main(String[] args) throws IOException, ReflectiveOperationException {
        String text = Files.readString(README);
        example(text);
        table(text);
        System.out.println(wrong == 0 ? "README.md is true" : wrong + " things in README.md are not true");
        if (wrong != 0) System.exit(1);
    }

    private static void say(String what) {
        wrong++;
        System.out.println(what);
    }

    private static void example(String text) throws ReflectiveOperationException {
        int from = text.indexOf("```java\n") + "```java\n".length();
        FutureSets x = new FutureSets();
        Map<String, Integer> known = new HashMap<>();
        int told = 0;
        for (String line : text.substring(from, text.indexOf("```", from)).split("\n")) {
            if (line.isEmpty() || line.equals("FutureSets x = new FutureSets();")) continue;
            Matcher call = CALL.matcher(line);
            if (!call.matches()) {
                say("this is no call: " + line);
                continue;
            }
            int got = answer(x, call.group(2), call.group(3), known);
            if (call.group(1) != null) known.put(call.group(1), got);
            // A line that tells no answer is one that builds: it must not be refused.
            if (call.group(4) == null && got <= FutureSets.BAD) say("refused: " + line);
            if (call.group(4) == null) continue;
            told++;
            int due = call.group(4).equals("NONE") ? FutureSets.NONE : Integer.parseInt(call.group(4));
            if (got != due) say(line + " answered " + got);
        }
        if (told == 0) say("the example tells no answers");
    }

    private static Method methodOf(String name) {
        for (Method each : FutureSets.class.getMethods()) {
            if (each.getName().equals(name)) return each;
        }
        throw new IllegalArgumentException("there is no such call: " + name);
    }

    private static int answer(FutureSets x, String name, String inBrackets, Map<String, Integer> known)
        throws ReflectiveOperationException {
        String[] words = inBrackets.isEmpty() ? new String[0] : inBrackets.split(", ");
        Object[] values = new Object[words.length];
        for (int i = 0; i < words.length; i++) {
            if (words[i].equals("true") || words[i].equals("false")) values[i] = Boolean.valueOf(words[i]);
            else values[i] = known.containsKey(words[i]) ? known.get(words[i]) : Integer.valueOf(words[i]);
        }
        return (Integer) methodOf(name).invoke(x, values);
    }

    private static void table(String text) {
        Set<String> seen = new HashSet<>();
        Matcher row = TABLE_CALL.matcher(text);
        while (row.find()) {
            seen.add(row.group(1));
            int parameters = row.group(2).isEmpty() ? 0 : row.group(2).split(", ").length;
            if (methodOf(row.group(1)).getParameterCount() != parameters) say("the table has " + row.group());
        }
        for (Method each : FutureSets.class.getDeclaredMethods()) {
            boolean open = Modifier.isPublic(each.getModifiers());
            if (open && !seen.contains(each.getName())) say("the table does not have " + each.getName());
        }
    }
}
