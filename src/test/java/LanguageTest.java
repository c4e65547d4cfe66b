import java.io.IOException;
import java.lang.reflect.Constructor;
import java.lang.reflect.Field;
import java.lang.reflect.Method;
import java.lang.reflect.Modifier;
import java.nio.file.Files;
import java.nio.file.Path;
import java.util.Arrays;
import java.util.Set;
import java.util.TreeSet;
import java.util.regex.Matcher;
import java.util.regex.Pattern;
import java.util.stream.Collectors;

/** The rules of ../shared/LANGUAGE.md that a plain look at the class and its source can tell. */
final class LanguageTest {
    private static final Due DUE = new Due();
    private static final Set<String> FACE = new TreeSet<>(Arrays.asList(
            "int feed(int,int,int,int,int)", "int back(int)", "int read()", "int place()", "int door(int,int)",
            "int worth(int,int)", "int table(int,int)", "int man(int,int)", "int has(int,int)", "int may(int,int,int)",
            "int go(int,int,int)", "int buy(int,int)", "boolean undo()", "int way(int,int,int,int,int)",
            "int step(int,int,int,int,int)", "int rid(int,int,int,int)", "int get(int,int)", "int inReach(int)",
            "int most(int,int)", "int meet(int,int,int)", "int riches(int)", "int round(int,int)", "int carried(int,int)",
            "int helps(int,int,int)", "int turned(int,int)", "int year(int,int,int)", "int rest(int)",
            "int see(int,int,int)", "int forget()", "long fits(int)", "int visitors(int,int,boolean)",
            "boolean hold(int)", "boolean restore(int)", "int count(int)"));

    private LanguageTest() {
    }

    private static String told(Method m) {
        return m.getReturnType().getSimpleName() + " " + m.getName() + Arrays.stream(m.getParameterTypes())
                .map(Class::getSimpleName).collect(Collectors.joining(",", "(", ")"));
    }

    private static void face() {
        Class<?> c = HallTables.class;
        Set<String> found = new TreeSet<>();
        Set<String> names = new TreeSet<>();
        for (Method m : c.getDeclaredMethods()) {
            if (!Modifier.isPrivate(m.getModifiers())) {
                found.add(told(m));
                names.add(m.getName());
                DUE.is(1, m.getName() + " is public", Modifier.isPublic(m.getModifiers()), true);
            }
        }
        DUE.is(1, "the face is " + found, found.equals(FACE), true);
        DUE.is(1, "public and final", Modifier.isPublic(c.getModifiers()) && Modifier.isFinal(c.getModifiers()), true);
        for (Constructor<?> k : c.getDeclaredConstructors()) {
            DUE.is(1, "the constructor", Modifier.isPublic(k.getModifiers()) && k.getParameterCount() == 0, true);
        }
        for (Field f : c.getDeclaredFields()) {
            boolean none = f.getName().equals("NONE") && Modifier.isPublic(f.getModifiers());
            DUE.is(1, "rule 1: field " + f.getName(), none || Modifier.isPrivate(f.getModifiers()), true);
        }
        DUE.is(1, "NONE", HallTables.NONE, -1);
        for (Class<?> in : c.getDeclaredClasses()) {
            DUE.is(1, "rule 2: " + in, Modifier.isStatic(in.getModifiers()) && !Modifier.isPublic(in.getModifiers()), true);
            for (Method m : in.getDeclaredMethods()) {
                DUE.is(1, "rule 1: " + in.getSimpleName() + " has " + m.getName(), names.contains(m.getName()), false);
                DUE.is(1, "rule 11: parameters of " + m, m.getParameterCount() <= 7, true);
            }
        }
        DUE.is(1, "rule 11: classes", c.getDeclaredClasses().length <= 11, true);
        fields(c);
        for (Class<?> in : c.getDeclaredClasses()) {
            fields(in);
        }
    }

    private static void fields(Class<?> c) {
        int own = 0;
        for (Field f : c.getDeclaredFields()) {
            boolean fixed = Modifier.isStatic(f.getModifiers());
            own += fixed ? 0 : 1;
            DUE.is(1, "rule 5: " + f, !fixed || Modifier.isFinal(f.getModifiers()), true);
        }
        DUE.is(1, "rule 11: fields of " + c, own <= 20, true);
    }

    /** The source without comments, and with nothing between quotes. */
    private static String bare(String source) {
        return source.replaceAll("(?s)/\\*.*?\\*/", "").replaceAll("//[^\n]*", "")
                .replaceAll("'(\\\\.|[^'\\\\])'", "' '").replaceAll("\"(\\\\.|[^\"\\\\])*\"", "\"\"");
    }

    private static void source(String source) {
        DUE.is(1, "signs", source.chars().allMatch(c -> c == 10 || c >= 32 && c < 127), true);
        String bare = bare(source);
        String[] never = {"\\bthrow\\b", "\\bthrows\\b", "\\btry\\b", "\\bcatch\\b", "\\bsynchronized\\b", "\\bassert\\b",
            "->", "::", "\\bequals\\b", "\\bhashCode\\b", "\\btoString\\b", "Exact\\b", "\\bThread\\b", "\\bRandom\\b",
            "currentTimeMillis", "nanoTime", "\\bInteger\\b(?!\\.bitCount)", "\\bpackage\\b", "\\bwhile\\b", "boolean\\[\\]\\[\\]",
            "\\bprotected\\b", "static\\s*\\{", "\\bdouble\\b", "\\bfloat\\b", "\\+ *\"\"|\"\" *\\+", "\\bvar\\b", "\\bObject\\b"};
        for (String word : never) {
            DUE.is(1, "the source has " + word, Pattern.compile(word).matcher(bare).find(), false);
        }
        Matcher imports = Pattern.compile("import ([^;]+);").matcher(bare);
        while (imports.find()) {
            DUE.is(1, "rule 4: import " + imports.group(1), imports.group(1).equals("java.util.Arrays"), true);
        }
        Matcher calls = Pattern.compile("\\b(Arrays|System|Math|Integer|Long)\\.(\\w+)").matcher(bare);
        Set<String> allowed = Set.of("Arrays.fill", "System.arraycopy", "Math.max", "Math.min", "Integer.bitCount");
        while (calls.find()) {
            DUE.is(1, "rule 4: " + calls.group(), allowed.contains(calls.group()), true);
        }
        Matcher loops = Pattern.compile("\\bfor \\(([^;]*);([^;]*);([^\n]*)\\) \\{").matcher(bare);
        int found = 0;
        while (loops.find()) {
            found++;
            boolean up = loops.group(2).contains("<") && loops.group(3).trim().matches("\\w+\\+\\+");
            boolean down = loops.group(2).contains(">=") && loops.group(3).trim().matches("\\w+(--| -= 8)");
            DUE.is(1, "rule 9: " + loops.group(), loops.group(1).startsWith("int ") && (up || down), true);
        }
        DUE.is(1, "rule 9: every loop is looked at", found, bare.split("\\bfor \\(").length - 1);
        methods(bare);
    }

    private static void methods(String bare) {
        String[] lines = bare.split("\n");
        int begin = -1;
        for (int i = 0; i < lines.length; i++) {
            if (lines[i].matches("(    |        )(\\w+ )*[\\w\\[\\]]+ ?\\w*\\(.*\\) \\{")) {
                begin = i;
            }
            if (lines[i].matches("(    |        )\\}") && begin >= 0) {
                DUE.is(1, "rule 11: lines of " + lines[begin].trim(), i - begin < 60, true);
                begin = -1;
            }
        }
    }

    public static void main(String[] args) throws IOException {
        face();
        source(Files.readString(Path.of("src/main/java/HallTables.java")));
        DUE.end();
    }
}
