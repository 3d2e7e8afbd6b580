import java.lang.reflect.Method;
import java.lang.reflect.Modifier;
import java.nio.file.Files;
import java.nio.file.Path;
import java.util.HashSet;
import java.util.List;
import java.util.Set;
import java.util.regex.Matcher;
import java.util.regex.Pattern;
import java.util.stream.Stream;

/** What README.md tells: its calls answer as they are told there, all calls are told, all tests named. */
public final class ReadmeTest {
    private static final Check check = new Check();
    private static final Pattern NEW = Pattern.compile("LetHoles x = new LetHoles\\(\\);");
    private static final Pattern TOLD = Pattern.compile("for \\(char \\w+ : \"(\\w*)\"\\.toCharArray\\(\\)\\) x\\.write\\(\\w+\\);.*");
    private static final Pattern CALL = Pattern.compile("x\\.(\\w+)\\((.*?)\\); +// (-?\\d+|[A-Z]+)\\b.*");

    public static void main(String[] args) throws Exception {
        List<String> lines = Files.readAllLines(Path.of("README.md"));
        Set<String> told = callsOf(lines);
        for (Method m : LetHoles.class.getDeclaredMethods()) {
            if (Modifier.isPublic(m.getModifiers())) {
                check.due("README.md tells an answer of " + m.getName(), told.contains(m.getName()) ? 1 : 0, 1);
            }
        }
        String all = String.join("\n", lines);
        check.due("README.md tells how the tests are run", all.contains("\n.ci/run\n") ? 1 : 0, 1);
        dueNamed(all);
        check.end();
    }

    /** Makes the calls of the java blocks one behind the other, as who reads them would. */
    private static Set<String> callsOf(List<String> lines) throws Exception {
        Set<String> told = new HashSet<>();
        LetHoles x = null;
        boolean isJava = false;
        for (int i = 0; i < lines.size(); i++) {
            String line = lines.get(i).trim();
            if (line.startsWith("```")) {
                isJava = line.equals("```java");
            } else if (isJava && NEW.matcher(line).matches()) {
                x = new LetHoles();
            } else if (isJava && !line.isEmpty()) {
                told.add(callOf(x, line, "README.md:" + (i + 1)));
            }
        }
        return told;
    }

    private static String callOf(LetHoles x, String line, String where) throws Exception {
        Matcher text = TOLD.matcher(line);
        if (text.matches()) {
            for (char letter : text.group(1).toCharArray()) {
                x.write(letter);
            }
            return "";
        }
        Matcher call = CALL.matcher(line);
        check.due(where + " is a call with its answer: " + line, call.matches() ? 1 : 0, 1);
        if (!call.matches()) {
            return "";
        }
        check.due(where + ": " + line, answerOf(x, call.group(1), call.group(2)), numberOf(call.group(3)));
        return call.group(1);
    }

    private static long answerOf(LetHoles x, String name, String told) throws Exception {
        String[] figures = told.isEmpty() ? new String[0] : told.split(", ");
        for (Method m : LetHoles.class.getMethods()) {
            if (m.getName().equals(name) && m.getParameterCount() == figures.length) {
                Object[] values = new Object[figures.length];
                for (int i = 0; i < figures.length; i++) {
                    values[i] = valueOf(figures[i], m.getParameterTypes()[i]);
                }
                return ((Number) m.invoke(x, values)).longValue();
            }
        }
        throw new IllegalArgumentException("no such call: " + name + "(" + told + ")");
    }

    private static Object valueOf(String figures, Class<?> type) {
        if (type == boolean.class) {
            return figures.equals("true");
        }
        if (figures.matches("'.'")) {
            return (int) figures.charAt(1);
        }
        long value = Long.parseLong(figures.replaceAll("[_L]", ""));
        return type == long.class ? (Object) value : (Object) (int) value;
    }

    private static long numberOf(String answer) throws Exception {
        return answer.matches("[A-Z]+") ? LetHoles.class.getField(answer).getInt(null) : Long.parseLong(answer);
    }

    private static void dueNamed(String readme) throws Exception {
        try (Stream<Path> files = Files.list(Path.of("src/test/java"))) {
            for (Path file : files.toList()) {
                String name = file.getFileName().toString().replace(".java", "");
                check.due("README.md names " + name, readme.contains("`" + name + "`") ? 1 : 0, 1);
            }
        }
    }
}
