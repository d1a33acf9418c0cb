import java.io.IOException;
import java.lang.reflect.Constructor;
import java.lang.reflect.Field;
import java.lang.reflect.Method;
import java.lang.reflect.Modifier;
import java.nio.file.Files;
import java.nio.file.Path;
import java.util.ArrayList;
import java.util.Arrays;
import java.util.HashSet;
import java.util.List;
import java.util.Set;
import java.util.TreeSet;
import java.util.regex.Matcher;
import java.util.regex.Pattern;

/** The public face, and those rules of LANGUAGE.md that a program can look after. Run it in the project's folder. */
public final class RuleTests {
    private static final String[] FACE = {
        "int row(int,int)", "int lay(int,int,int)", "int at(int,int)", "int tear(int)", "int copy(int,int,int,int,int)",
        "int mean(int)", "int text(int,int)", "int put(int,int,int)", "int stuff(int,int,int,int)", "int stuffs(int)",
        "int debt(int,int)", "int making(int,int,int,int,int,int,boolean)", "int about(int,int)", "int told(int,int)",
        "int mark(int,int)", "int fault(int)", "int laws(int,int)", "int law(int)", "int inside(int,int)",
        "int now(int,int,int)", "int whose(int,int,int,int,int)", "int owners(int,int,int,int)",
        "int changes(int,int,int,int)", "int lost(int,int,int,int)", "int beside(int,int,int)", "int undo(int,int)",
        "int sure(int,int,int,int)", "int hangs(int,int,int,int)", "int sly(int,int,int,int)", "int stop(int,int,int,int)",
        "int inTime(int,int,int)", "int heap(int,int,int)", "int draw(int,int,int,int)", "int left(int,int)",
        "int layer(int,int)", "int asked()", "long upper()", "long lower()", "int count(int)", "int finding()",
        "int findings(int)", "long digest()"};
    private static final Set<String> CONSTANTS = Set.of("BAD", "FULL", "FINDING", "STATE", "SPENT", "NONE");

    private static int wrong = 0;

    private static void must(boolean holds, String what) {
        if (!holds) {
            wrong++;
            System.out.println(what);
        }
    }

    public static void main(String[] args) throws IOException {
        face();
        String source = Files.readString(Path.of("src/main/java/MarbleLaw.java"));
        words(withoutComments(source));
        lengths(source);
        System.out.println(wrong == 0 ? "all rules are kept" : wrong + " rules are broken");
        if (wrong != 0) System.exit(1);
    }

    private static void face() {
        Class<?> c = MarbleLaw.class;
        must(c.getModifiers() == (Modifier.PUBLIC | Modifier.FINAL), "the class is public and final");
        Set<String> told = new TreeSet<>();
        Set<String> names = new HashSet<>();
        for (Method m : c.getDeclaredMethods()) {
            if (Modifier.isPrivate(m.getModifiers())) continue;
            must(m.getModifiers() == Modifier.PUBLIC, m + " is public and nothing else");
            List<String> types = new ArrayList<>();
            for (Class<?> p : m.getParameterTypes()) types.add(p.getName());
            told.add(m.getReturnType() + " " + m.getName() + "(" + String.join(",", types) + ")");
            names.add(m.getName());
        }
        must(told.equals(new TreeSet<>(Arrays.asList(FACE))), "rule 1: the face is " + told);
        for (Constructor<?> k : c.getDeclaredConstructors()) {
            must(Modifier.isPublic(k.getModifiers()) && k.getParameterCount() == 0, "rule 1: " + k);
        }
        for (Field f : c.getDeclaredFields()) {
            must(Modifier.isPrivate(f.getModifiers()) != CONSTANTS.contains(f.getName()), "rule 1: " + f);
        }
        List<Class<?>> all = new ArrayList<>(List.of(c.getDeclaredClasses()));
        for (Class<?> inner : all) must(Modifier.isStatic(inner.getModifiers()), "rule 2: " + inner + " is static");
        all.add(c);
        must(all.size() <= 12, "rule 11: classes");
        for (Class<?> k : all) members(k, k == c ? Set.of() : names, names);
    }

    private static void members(Class<?> k, Set<String> forbidden, Set<String> names) {
        int fields = 0;
        for (Field f : k.getDeclaredFields()) {
            if (Modifier.isStatic(f.getModifiers())) must(Modifier.isFinal(f.getModifiers()), "rule 5: " + f);
            else fields++;
        }
        must(fields <= 20, "rule 11: fields of " + k);
        for (Method m : k.getDeclaredMethods()) {
            must(m.getParameterCount() <= 7, "rule 11: parameters of " + m);
            boolean hidden = Modifier.isPrivate(m.getModifiers()) && names.contains(m.getName());
            must(!hidden && !forbidden.contains(m.getName()), "rule 1: name of " + m);
        }
    }

    private static String withoutComments(String source) {
        return source.replaceAll("(?s)/\\*.*?\\*/", "").replaceAll("//[^\n]*", "");
    }

    private static void words(String code) {
        String[] forbidden = {"throw", "throws", "try", "catch", "finally", "synchronized", "assert", "import", "package",
            "instanceof", "float", "double", "protected", "volatile", "native", "goto", "record", "sealed", "System\\.(?!arraycopy)",
            "Math\\.\\w+Exact", "Random", "Thread", "Object", "toString", "hashCode", "equals"};
        for (String w : forbidden) {
            must(!Pattern.compile("\\b" + w + (w.matches("\\w+") ? "\\b" : "")).matcher(code).find(), "not allowed: " + w);
        }
        must(!code.contains("->") && !code.contains("::"), "rule 2: no lambda, no method reference");
        must(!code.contains("\""), "no texts are needed");
        Matcher loops = Pattern.compile("for \\(;|while \\(true\\)|for \\([^;]*; *;").matcher(code);
        must(!loops.find(), "rule 9: every loop has an end");
        Matcher makes = Pattern.compile("(?m)^(.*)\\bnew\\b").matcher(code);
        while (makes.find()) {
            String before = makes.group(1);
            must(before.contains("final ") || before.matches(" +(rows|texts|heaps)\\[\\w\\] = "),
                    "rule 12: only constructors make objects: " + makes.group());
        }
    }

    /** Members of a class begin at one step's indent (two in a class inside) and end at the same one. */
    private static void lengths(String source) {
        String[] lines = source.split("\n");
        must(source.endsWith("}\n"), "the file ends with its class");
        for (int i = 0; i < lines.length; i++) {
            must(lines[i].length() <= 110, "a long line: " + (i + 1));
            if (!lines[i].matches(" {4}( {4})?[a-zA-Z].*\\) \\{") || lines[i].matches(" +(for|if|while|switch|\\}).*")) continue;
            String end = lines[i].replaceAll("[^ ].*", "") + "}";
            int j = i;
            while (j < lines.length - 1 && !lines[j].equals(end)) j++;
            must(j - i < 60, "rule 11: a long method at line " + (i + 1));
        }
    }
}
