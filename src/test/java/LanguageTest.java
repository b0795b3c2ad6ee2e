import java.lang.reflect.Field;
import java.lang.reflect.Method;
import java.lang.reflect.Modifier;
import java.nio.file.Files;
import java.nio.file.Path;
import java.util.ArrayList;
import java.util.Arrays;
import java.util.List;
import java.util.Set;
import java.util.TreeSet;
import java.util.regex.Matcher;
import java.util.regex.Pattern;

/** The face of the document, and the rules of LANGUAGE.md that can be seen in the text or by reflection. */
public final class LanguageTest {
    private static final Due d = new Due();

    private static final String FACE = "int rocket(int,int,int,int) int of(int,int) int set(int,int,int) int light(int) "
        + "int grieve(int,int) int rain(int,int) int row(int,int,int) int feed(int) int show() int told(int) "
        + "int pass(int) int on(int,int) int best(int,int) int mark(int,int,int) int wrong() int can(int,int) "
        + "long odds(int,int) long mean(int) int plan(int,int) int ends(int) int book(int,int) int looked() "
        + "int judge(int,int) int image() int undo() int act(int,int,int) int trace(int) int taken(int,int) "
        + "int count(int) int tape(int,int,int) int item(int,int,long) long read(int,int) "
        + "int shift(int,int,int,int,int)";

    public static void main(String[] args) throws Exception {
        face();
        names();
        nested();
        statics();
        String source = Files.readString(Path.of("src/main/java/FireApologies.java"));
        text(source);
        constructors(source);
        d.end();
    }

    private static void face() {
        Class<?> c = FireApologies.class;
        d.due("the class is public and final", c.getModifiers() & (Modifier.PUBLIC | Modifier.FINAL),
            Modifier.PUBLIC | Modifier.FINAL);
        Set<String> want = new TreeSet<>(Arrays.asList(FACE.split(" (?=int |long )")));
        Set<String> got = new TreeSet<>();
        for (Method m : c.getDeclaredMethods()) {
            if (!Modifier.isPrivate(m.getModifiers()) && !m.isSynthetic()) {
                List<String> types = new ArrayList<>();
                for (Class<?> type : m.getParameterTypes()) {
                    types.add(type.getName());
                }
                got.add(m.getReturnType().getName() + " " + m.getName() + "(" + String.join(",", types) + ")");
                d.due(m + " is public and not static", m.getModifiers(), Modifier.PUBLIC);
            }
        }
        same("the face's methods", got, want);
        Set<String> fields = new TreeSet<>();
        for (Field f : c.getDeclaredFields()) {
            if (!Modifier.isPrivate(f.getModifiers())) {
                fields.add(Modifier.toString(f.getModifiers()) + " " + f.getType() + " " + f.getName());
            }
        }
        same("the face's constants", fields, new TreeSet<>(List.of("public static final int NONE",
            "public static final int BAD", "public static final int STATE", "public static final int FULL",
            "public static final long NO")));
        d.due("constructors", c.getDeclaredConstructors().length, 1);
        d.due("the constructor is public", c.getConstructors().length, 1);
    }

    private static void same(String what, Set<String> got, Set<String> want) {
        d.due(what + ": " + got + " against " + want, got.equals(want) ? 1 : 0, 1);
    }

    private static void names() {
        Set<String> open = new TreeSet<>();
        for (Method m : FireApologies.class.getMethods()) {
            open.add(m.getName());
        }
        for (Class<?> c : classes()) {
            for (Method m : c.getDeclaredMethods()) {
                if (c != FireApologies.class || Modifier.isPrivate(m.getModifiers())) {
                    d.due(m + " bears the name of a public one", open.contains(m.getName()) ? 1 : 0, 0);
                }
                d.due(m + " takes seven at most", m.getParameterCount() <= 7 ? 1 : 0, 1);
            }
        }
    }

    private static List<Class<?>> classes() {
        List<Class<?>> all = new ArrayList<>(List.of(FireApologies.class));
        all.addAll(Arrays.asList(FireApologies.class.getDeclaredClasses()));
        return all;
    }

    private static void nested() {
        d.due("twelve classes at most", classes().size() <= 12 ? 1 : 0, 1);
        for (Class<?> c : classes()) {
            d.due(c + " is static", c == FireApologies.class || Modifier.isStatic(c.getModifiers()) ? 1 : 0, 1);
            long fields = Arrays.stream(c.getDeclaredFields()).filter(f -> !Modifier.isStatic(f.getModifiers())).count();
            d.due(c + " has twenty fields at most", fields <= 20 ? 1 : 0, 1);
        }
    }

    private static void statics() {
        for (Class<?> c : classes()) {
            for (Field f : c.getDeclaredFields()) {
                if (Modifier.isStatic(f.getModifiers())) {
                    d.due(f + " is final", Modifier.isFinal(f.getModifiers()) ? 1 : 0, 1);
                }
            }
        }
    }

    private static void text(String source) {
        String code = source.replaceAll("(?s)/\\*.*?\\*/", "").replaceAll("//[^\n]*", "").replaceAll("\"[^\"\n]*\"", "\"\"");
        for (String word : List.of("throw", "throws", "try", "catch", "finally", "synchronized", "assert", "package",
                "float", "double", "protected", "native", "volatile", "transient", "Object", "Random", "Thread", "var",
                "yield", "equals", "hashCode", "toString")) {
            Matcher m = Pattern.compile("\\b" + word + "\\b").matcher(code);
            d.due("the word " + word, m.find() ? 1 : 0, 0);
        }
        for (String sign : List.of("->", "::", "@", "while (true)", "for (;;)", "static {")) {
            d.due("the sign " + sign, code.contains(sign) ? 1 : 0, 0);
        }
        Matcher called = Pattern.compile("\\b(System|Arrays|Math|Integer|Long)\\.(\\w+)").matcher(code);
        Set<String> known = Set.of("System.arraycopy", "Arrays.copyOf", "Arrays.fill", "Math.max", "Math.min",
            "Math.floorDiv", "Math.floorMod", "Integer.bitCount", "Integer.numberOfTrailingZeros",
            "Integer.MIN_VALUE", "Long.MIN_VALUE");
        while (called.find()) {
            d.due("the library's " + called.group(), known.contains(called.group()) ? 1 : 0, 1);
        }
        d.due("one import", code.split("\\bimport\\b", -1).length - 1, 1);
        int length = 0;
        for (String line : source.split("\n")) {
            boolean ends = line.equals("    }") || line.equals("        }");
            length = ends || line.isEmpty() ? 0 : length + 1;
            d.due("a method of sixty lines at most: " + line, length <= 60 ? 1 : 0, 1);
            d.due("the signs of the text are 1 to 127: " + line, line.chars().allMatch(s -> s < 128) ? 1 : 0, 1);
        }
    }

    /** A constructor that calls nothing hands out nothing of the object that it makes. */
    private static void constructors(String source) {
        int found = 0;
        Matcher body = Pattern.compile("(?ms)^( +)(?:public )?[A-Z]\\w*\\([^()]*\\) \\{\n(.*?)^\\1\\}").matcher(source);
        while (body.find()) {
            found++;
            d.due("a constructor calls nothing: " + body.group(2), Pattern.compile("\\w\\(|\\bnew\\b")
                .matcher(body.group(2)).find() ? 1 : 0, 0);
        }
        d.due("constructors that are written out", found, 2);
    }
}
