import java.lang.reflect.Constructor;
import java.lang.reflect.Field;
import java.lang.reflect.Member;
import java.lang.reflect.Method;
import java.lang.reflect.Modifier;
import java.nio.file.Files;
import java.nio.file.Path;
import java.util.HashSet;
import java.util.Set;
import java.util.TreeSet;
import java.util.regex.Matcher;
import java.util.regex.Pattern;

/** What of ../shared/LANGUAGE.md can be seen by looking: the face, static fields, words that are ruled out. */
public final class LanguageTest {
    private static final Check check = new Check();
    private static final String FACE = "write(int) wipe() fault() dairy() owner(int,int) hole(int,int) cell(int,int)"
        + " day() eat(int,int) let(int,int) sell(int,int) undo() way(int,int) gnaw(int,int) wedding(int,int)"
        + " ahead(int,int) cut(int,int,int) judge(int,long) taste(int,int,int) rinse() began(int)"
        + " share(int,boolean) rests(int,int,int) passes(int,int,int,boolean) seed(long) years(int)"
        + " keep(int) again(int) count(int)";

    public static void main(String[] args) throws Exception {
        face();
        constants();
        classesInside();
        words();
        check.end();
    }

    private static void dueSame(String what, Set<String> got, Set<String> want) {
        check.due(what + ": " + got + ", due is " + want, got.equals(want) ? 1 : 0, 1);
    }

    private static void face() {
        Set<String> open = new TreeSet<>();
        for (Method m : LetHoles.class.getDeclaredMethods()) {
            if (!Modifier.isPrivate(m.getModifiers())) {
                open.add(m.toString().replaceAll("^.*LetHoles\\.", ""));
                check.due(m + " is public and of an object", m.getModifiers(), Modifier.PUBLIC);
                Class<?> due = m.getName().equals("seed") ? long.class : int.class;
                check.due(m + " answers " + due, m.getReturnType() == due ? 1 : 0, 1);
            }
        }
        dueSame("methods", open, new TreeSet<>(Set.of(FACE.split(" "))));
        check.due("the class", LetHoles.class.getModifiers(), Modifier.PUBLIC | Modifier.FINAL);
        for (Constructor<?> c : LetHoles.class.getDeclaredConstructors()) {
            check.due("the constructor", c.getModifiers() + c.getParameterCount(), Modifier.PUBLIC);
        }
    }

    private static void constants() {
        Set<String> open = new TreeSet<>();
        for (Field f : LetHoles.class.getDeclaredFields()) {
            if (!Modifier.isPrivate(f.getModifiers())) {
                open.add(f.getName());
            }
        }
        dueSame("constants", open, new TreeSet<>(Set.of("UNKNOWN", "OUTSIDE", "STATE", "FULL", "NONE")));
        check.due("UNKNOWN", LetHoles.UNKNOWN, -1);
        check.due("OUTSIDE", LetHoles.OUTSIDE, -2);
        check.due("STATE", LetHoles.STATE, -3);
        check.due("FULL", LetHoles.FULL, -4);
        check.due("NONE", LetHoles.NONE, -9);
    }

    private static void classesInside() {
        Set<String> publicNames = new HashSet<>();
        for (Method m : LetHoles.class.getDeclaredMethods()) {
            if (Modifier.isPublic(m.getModifiers())) {
                publicNames.add(m.getName());
            }
        }
        dueMembers(LetHoles.class, publicNames);
        check.due("at most twelve classes", LetHoles.class.getDeclaredClasses().length <= 11 ? 1 : 0, 1);
        for (Class<?> inside : LetHoles.class.getDeclaredClasses()) {
            int kind = inside.getModifiers() & (Modifier.STATIC | Modifier.PUBLIC | Modifier.PROTECTED);
            check.due(inside + " is static and not open", kind, Modifier.STATIC);
            dueMembers(inside, publicNames);
        }
    }

    private static void dueMembers(Class<?> inside, Set<String> publicNames) {
        int fields = 0;
        for (Field f : inside.getDeclaredFields()) {
            if (isStatic(f)) {
                check.due(f + " is final", Modifier.isFinal(f.getModifiers()) ? 1 : 0, 1);
            } else {
                fields++;
            }
        }
        check.due(inside + " has at most twenty fields", fields <= 20 ? 1 : 0, 1);
        for (Method m : inside.getDeclaredMethods()) {
            boolean ofFace = inside == LetHoles.class && Modifier.isPublic(m.getModifiers());
            check.due(m + " bears no public name", !ofFace && publicNames.contains(m.getName()) ? 1 : 0, 0);
            check.due(m + " takes at most seven", m.getParameterCount() <= 7 ? 1 : 0, 1);
        }
    }

    private static boolean isStatic(Member m) {
        return Modifier.isStatic(m.getModifiers());
    }

    private static void words() throws Exception {
        String source = Files.readString(Path.of("src/main/java/LetHoles.java"));
        String code = source.replaceAll("(?s)/\\*.*?\\*/", "").replaceAll("//[^\n]*", "");
        String ruledOut = "\\b(throws?|try|catch|finally|synchronized|assert|package|double|float|protected|volatile"
            + "|native|System\\.(?!arraycopy)\\w+|Thread|Random|Object|Map|Set|\\w+Exact)\\b|->|::|\\[\\]\\[\\]";
        Matcher m = Pattern.compile(ruledOut).matcher(code);
        check.due(m.find() ? "ruled out: " + m.group() : "nothing is ruled out", m.reset().find() ? 1 : 0, 0);
        Matcher imports = Pattern.compile("import ([^;]*);").matcher(code);
        while (imports.find()) {
            check.due("import " + imports.group(1), imports.group(1).equals("java.util.Arrays") ? 1 : 0, 1);
        }
        Matcher library = Pattern.compile("\\b(Arrays|Math|Integer|Long|System)\\.(\\w+)").matcher(code);
        Set<String> allowed = Set.of("fill", "copyOf", "arraycopy", "abs", "max", "min", "bitCount");
        while (library.find()) {
            check.due("library: " + library.group(), allowed.contains(library.group(2)) ? 1 : 0, 1);
        }
        int longest = 0;
        int open = 0;
        String[] lines = code.split("\n");
        for (int i = 0; i < lines.length; i++) {
            if (lines[i].matches(" {4}( {4})?[a-z][^=;]*\\) \\{")) {
                open = i;
            } else if (lines[i].matches(" {4}( {4})?\\}")) {
                longest = Math.max(longest, i - open - 1);
                open = i;
            }
        }
        check.due("the longest method has " + longest + " lines", longest <= 60 && longest > 5 ? 1 : 0, 1);
    }
}
