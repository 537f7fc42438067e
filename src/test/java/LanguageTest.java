import java.lang.reflect.Constructor;
import java.lang.reflect.Field;
import java.lang.reflect.Method;
import java.lang.reflect.Modifier;
import java.nio.file.Files;
import java.nio.file.Path;
import java.util.ArrayList;
import java.util.Arrays;
import java.util.List;
import java.util.Set;
import java.util.TreeSet;
import java.util.regex.Matcher;
import java.util.regex.Pattern;

/** What can be seen of ../shared/LANGUAGE.md by the class's face and by its text. */
public final class LanguageTest {
    private static final Path SOURCE = Path.of("src/main/java/BothSidesSheet.java");

    private static final String FACE = "int tray(int,int)|int of(int,int)|int row(int,int,int)"
            + "|int feed(int)|int job()|int load(int)|int empty()|int turn(int)|int sheet(int,int)"
            + "|int told(int)|int jobs(int,int)|int run(int,int)|int after(int,int,int)"
            + "|int best(int)|int uses(int,int)|int way(int,int,int,int,int)"
            + "|int twice(int,int,int)|int find(int)|int see(int,int,int)|int which(int)"
            + "|int can(int,int,int)|long odds(int,int,int)|long mean(int,int)"
            + "|int plan(int,int,int)|int done(int)|int book(int,int,int)|int looked()"
            + "|int judge(int,int)|int image()|int undo()|int act(int,int,int)|int trace(int)"
            + "|int taken(int,int)|int count(int)|int tape(int,int,int)|int item(int,int,long)"
            + "|long read(int,int)|int shift(int,int,int,int,int)";

    private LanguageTest() { }

    private static String signature(Method m) {
        List<String> types = new ArrayList<>();
        for (Class<?> c : m.getParameterTypes()) {
            types.add(c.getSimpleName());
        }
        return m.getReturnType().getSimpleName() + " " + m.getName()
                + "(" + String.join(",", types) + ")";
    }

    private static void face() {
        Class<?> c = BothSidesSheet.class;
        Due.holds("public and final", Modifier.isPublic(c.getModifiers())
                && Modifier.isFinal(c.getModifiers()));
        Set<String> seen = new TreeSet<>();
        for (Method m : c.getDeclaredMethods()) {
            if (!Modifier.isPrivate(m.getModifiers()) && !m.isSynthetic()) {
                Due.holds("public: " + m, Modifier.isPublic(m.getModifiers()));
                Due.holds("no static: " + m, !Modifier.isStatic(m.getModifiers()));
                seen.add(signature(m));
            }
        }
        Set<String> face = new TreeSet<>(Arrays.asList(FACE.split("\\|")));
        Due.holds("the face's methods: " + seen, seen.equals(face));
        Constructor<?>[] made = c.getDeclaredConstructors();
        Due.holds("one public constructor of nothing", made.length == 1
                && Modifier.isPublic(made[0].getModifiers())
                && made[0].getParameterCount() == 0);
        Set<String> constants = new TreeSet<>();
        for (Field f : c.getDeclaredFields()) {
            if (!Modifier.isPrivate(f.getModifiers())) {
                constants.add(f.getType() + " " + f.getName());
            }
        }
        Due.holds("the face's constants: " + constants, constants.equals(new TreeSet<>(
                List.of("int NONE", "int BAD", "int STATE", "int FULL", "long NO"))));
    }

    private static void classes() {
        Set<String> names = new TreeSet<>();
        for (String s : FACE.split("\\|")) {
            names.add(s.substring(s.indexOf(' ') + 1, s.indexOf('(')));
        }
        List<Class<?>> all = new ArrayList<>();
        all.add(BothSidesSheet.class);
        all.addAll(Arrays.asList(BothSidesSheet.class.getDeclaredClasses()));
        Due.holds("twelve classes at most", all.size() <= 12);
        for (Class<?> c : all) {
            boolean outer = c == BothSidesSheet.class;
            Due.holds("static: " + c, outer || Modifier.isStatic(c.getModifiers())
                    && !Modifier.isPublic(c.getModifiers())
                    && !Modifier.isProtected(c.getModifiers()));
            int fields = 0;
            for (Field f : c.getDeclaredFields()) {
                boolean fixed = Modifier.isStatic(f.getModifiers());
                Due.holds("final: " + f, !fixed || Modifier.isFinal(f.getModifiers()));
                fields += fixed ? 0 : 1;
            }
            Due.holds("twenty fields at most: " + c, fields <= 20);
            for (Method m : c.getDeclaredMethods()) {
                boolean promised = outer && Modifier.isPublic(m.getModifiers());
                Due.holds("no public one's name: " + m, promised || !names.contains(m.getName()));
                Due.holds("seven parameters at most: " + m, m.getParameterCount() <= 7);
            }
        }
    }

    private static void words(String text) {
        String bare = text.replaceAll("(?s)/\\*.*?\\*/", " ").replaceAll("//[^\n]*", " ")
                .replaceAll("\"[^\"\n]*\"", "\"\"").replaceAll("'[^'\n]'", "''");
        String[] none = {"throw", "throws", "try", "catch", "finally", "synchronized", "assert",
            "volatile", "transient", "native", "Object", "System.out", "System.err", "Random",
            "Thread", "equals", "hashCode", "toString", "Exact", "super", "float", "double",
            "package", "interface", "protected"};
        for (String word : none) {
            Matcher m = Pattern.compile("\\b" + Pattern.quote(word) + "\\b").matcher(bare);
            Due.holds("no " + word, !m.find());
        }
        Due.holds("no lambda", !bare.contains("->"));
        Due.holds("no method reference", !bare.contains("::"));
        Matcher imports = Pattern.compile("import [^;]+;").matcher(bare);
        while (imports.find()) {
            Due.is(imports.group(), imports.group().equals("import java.util.Arrays;") ? 1 : 0, 1);
        }
        Matcher system = Pattern.compile("System\\.(\\w+)").matcher(bare);
        while (system.find()) {
            Due.holds("System." + system.group(1), system.group(1).equals("arraycopy"));
        }
        Due.holds("no sign beyond 127", text.chars().allMatch(c -> c < 128));
        Due.holds("one top class", bare.indexOf("public final class BothSidesSheet") >= 0);
    }

    /** By how it is set: a method begins at one or two steps in, and ends there with a brace. */
    private static void lengths(List<String> lines) {
        for (int i = 0; i < lines.size(); i++) {
            String line = lines.get(i);
            Due.holds("line " + (i + 1) + " is not long", line.length() <= 110);
            if (!line.matches("( {4}| {8})[a-zA-Z].*\\) \\{") || line.matches(" +(if|for|while|switch) .*")) {
                continue;
            }
            String step = line.substring(0, line.length() - line.stripLeading().length());
            int end = i;
            while (end < lines.size() && !lines.get(end).equals(step + "}")) {
                end++;
            }
            Due.holds("sixty lines at most from " + (i + 1), end - i + 1 <= 60);
        }
    }

    public static void main(String[] args) throws Exception {
        face();
        classes();
        words(Files.readString(SOURCE));
        lengths(Files.readAllLines(SOURCE));
        Due.end("LanguageTest");
    }
}
