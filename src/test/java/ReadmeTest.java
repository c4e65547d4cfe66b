import java.io.ByteArrayOutputStream;
import java.io.IOException;
import java.io.PrintStream;
import java.nio.file.DirectoryStream;
import java.nio.file.Files;
import java.nio.file.Path;
import java.util.LinkedHashMap;
import java.util.Map;
import java.util.Set;
import java.util.TreeSet;
import java.util.regex.Matcher;
import java.util.regex.Pattern;

/** README.md held against the document, the class and the tests that there are. */
final class ReadmeTest {
    private static final Due DUE = new Due();
    private static final Path DOCUMENT = Path.of("..", "shared", "DOC.md");
    private static final Path TESTS = Path.of("src", "test", "java");
    private static final int NONE = HallTables.NONE;
    private static final int NEVER = -2;
    /** Tom at the mill has two apples, ann at the barn nothing; no door leads to the isle; the inn sells bread. */
    private static final String TOWN = "sort apple 3;sort bread 5;house mill;house inn;house barn;house isle;door mill inn 5;"
            + "door inn barn 2;shop inn bread;man tom mill:apple 2;man ann barn;call tom inn;";

    private ReadmeTest() {
    }

    /** How a call is written in the table: its name and the names of its parameters, as in the document's face. */
    private static Map<String, String> face(String document) {
        Map<String, String> calls = new LinkedHashMap<>();
        Matcher m = Pattern.compile("    public (?:int|long|boolean) (\\w+)\\((.*)\\);").matcher(document);
        while (m.find()) {
            calls.put(m.group(1), m.group(1) + "(" + m.group(2).replaceAll("(int|boolean) ", "") + ")");
        }
        return calls;
    }

    private static String promise(String document, String name) {
        Matcher m = Pattern.compile("## Promise \\d+: " + name + "\n\n`[^`]*`:([^\n]*)").matcher(document);
        return m.find() ? m.group(1) : "";
    }

    private static void rows(String readme, String document) {
        Map<String, String> calls = face(document);
        DUE.is(1, "methods of the face", calls.size(), 34);
        for (Map.Entry<String, String> call : calls.entrySet()) {
            Matcher row = Pattern.compile("\n\\| `" + Pattern.quote(call.getValue()) + "` \\| ([^|\n]+) \\| ([^|\n]+) \\| ([^|\n]+) \\|\n")
                    .matcher(readme);
            boolean found = row.find();
            DUE.is(1, "README.md has a row for " + call.getValue(), found, true);
            if (found) {
                String says = promise(document, call.getKey());
                boolean none = says.contains("NONE") || says.contains("-1: no such");
                DUE.is(1, "README.md tells when NONE is answered by " + call.getKey(), !row.group(2).equals("never"), none);
                DUE.is(1, "README.md tells when -2 is answered by " + call.getKey(), !row.group(3).equals("never"), says.contains("-2"));
            }
        }
    }

    /** Of each row that tells of NONE and what it tells of. */
    private static void none() {
        HallTables t = Feeder.town(TOWN);
        DUE.is(5, "place without a FAULT", t.place(), NONE);
        DUE.is(5, "place without a text", new HallTables().place(), NONE);
        DUE.is(2, "feed without room", full().feed(0, 0, 0, 0, 0), NONE);
        DUE.is(3, "back of more than there are", t.back(1), NONE);
        DUE.is(3, "back below 0", t.back(-1), NONE);
        long[] not = {
            t.door(0, 4), t.door(1, 1), t.worth(4, 0), t.worth(0, 2), t.table(0, 2), t.man(2, 0), t.man(0, 5), t.has(0, 2),
            t.riches(4), t.count(12), t.may(0, 4, 0), t.may(0, 0, 0), t.go(0, 4, 0), t.buy(0, 2), t.way(0, 0, 0, 3, 0),
            t.way(0, 0, 0, 0, 4), t.step(0, 1, NONE, 0, 1), t.step(0, 3, NONE, 0, 0), t.step(2, 0, 0, 0, 0),
            t.rid(0, NONE, 0, 0), t.rid(0, 0, 0, 3), t.get(0, NONE), t.inReach(2), t.most(0, 4), t.meet(0, 0, 0),
            t.meet(0, 2, 0), t.round(2, 0), t.round(0, 16), t.carried(2, 0), t.helps(0, 0, 4), t.turned(0, 4),
            t.year(0, 0, 0), t.year(0, 401, 0), t.year(0, 1, 4), t.rest(3), t.see(4, 0, 0), t.see(0, 0, 10), t.fits(1),
            t.visitors(4, 0, false), t.visitors(0, 1, false)};
        for (int i = 0; i < not.length; i++) {
            DUE.is(1, "call " + i + " of what is not there", not[i], NONE);
        }
        for (int i = 0; i < 30; i++) {
            DUE.is(29, "see", t.see(0, 0, 0), i);
        }
        DUE.is(29, "see without room", t.see(0, 0, 0), NONE);
        DUE.is(15, "way that can't be, asked with what 4", t.way(0, 3, NONE, 0, 4), NONE);
    }

    private static HallTables full() {
        HallTables town = new HallTables();
        for (int i = 0; i < 100; i++) {
            town.feed(0, 0, 0, 0, 0);
        }
        return town;
    }

    /** Of each row that tells of -2 what it tells of. */
    private static void never() {
        HallTables t = Feeder.town(TOWN);
        DUE.is(22, "POOREST without HOUSES", new HallTables().riches(NONE), NEVER);
        DUE.is(15, "way to the isle", t.way(0, 3, NONE, 0, 0), NEVER);
        DUE.is(17, "rid of a thing where no door is", Feeder.town("sort a 1;house b;man c b:a 1;").rid(0, 0, 0, 0), NEVER);
        DUE.is(18, "get an apple", t.get(0, 0), NEVER);
        DUE.is(20, "most at the isle", t.most(0, 3), NEVER);
        DUE.is(21, "meet", Feeder.town("house a;house b;man c a;man d b;").meet(0, 1, 0), NEVER);
        DUE.is(23, "round by the isle", t.round(0, 8), NEVER);
        DUE.is(25, "helps", t.helps(1, 0, 0), NEVER);
        DUE.is(26, "turned", t.turned(0, 1), NEVER);
    }

    /** As an argument NONE is something of its own in five calls. */
    private static void asArgument() {
        HallTables t = Feeder.town(TOWN);
        DUE.is(7, "the plain WORTH", t.worth(NONE, 1), 5);
        DUE.is(22, "POOREST", t.riches(NONE), 0);
        DUE.is(15, "way with whatever", t.way(0, 1, NONE, 0, 0), 1);
        DUE.is(16, "step with whatever", t.step(0, 1, NONE, 0, 0), 10);
        DUE.is(12, "go out", t.go(0, 1, 0), 0);
        DUE.is(12, "go HOME leaving nothing", t.go(0, 0, NONE), 0);
    }

    private static void example(String readme) throws IOException {
        String source = Files.readString(TESTS.resolve("Example.java"));
        DUE.is(1, "Example.java stands in README.md", readme.contains("```java\n" + source + "```\n"), true);
        PrintStream screen = System.out;
        ByteArrayOutputStream printed = new ByteArrayOutputStream();
        System.setOut(new PrintStream(printed, true));
        Example.main(new String[0]);
        System.setOut(screen);
        String[] lines = printed.toString().trim().split("\\s+");
        DUE.is(1, "README.md tells what it prints", readme.contains("It prints, a line each: " + String.join(", ", lines) + "."), true);
        Matcher comment = Pattern.compile("println\\(.*// (-?\\d+):").matcher(source);
        for (String line : lines) {
            DUE.is(1, "the comment in Example.java", comment.find() ? Integer.parseInt(comment.group(1)) : Integer.MIN_VALUE,
                    Integer.parseInt(line));
        }
        DUE.is(1, "more comments than lines", comment.find(), false);
    }

    private static void tests(String readme) throws IOException {
        Set<String> there = new TreeSet<>();
        try (DirectoryStream<Path> files = Files.newDirectoryStream(TESTS, "*Test.java")) {
            for (Path file : files) {
                there.add(file.getFileName().toString().replace(".java", ""));
            }
        }
        Set<String> told = new TreeSet<>();
        Matcher row = Pattern.compile("\n\\| `(\\w+Test)` \\|").matcher(readme);
        while (row.find()) {
            told.add(row.group(1));
        }
        DUE.is(1, "the tests " + there + " and those told " + told, there.equals(told), true);
    }

    public static void main(String[] args) throws IOException {
        String readme = Files.readString(Path.of("README.md"));
        rows(readme, Files.readString(DOCUMENT));
        none();
        never();
        asArgument();
        example(readme);
        tests(readme);
        DUE.end();
    }
}
