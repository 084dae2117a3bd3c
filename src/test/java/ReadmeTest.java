import java.io.IOException;
import java.lang.reflect.Method;
import java.nio.file.DirectoryStream;
import java.nio.file.Files;
import java.nio.file.Path;
import java.util.List;
import java.util.Map;
import java.util.TreeMap;
import java.util.TreeSet;
import java.util.regex.Matcher;
import java.util.regex.Pattern;

/** What README.md says of the class: tried on the class, and held against the document. Runs in the project's folder. */
public final class ReadmeTest {
    private static final Check CHECK = new Check("ReadmeTest");
    private static final Pattern LINE = Pattern.compile("x\\.(\\w+)\\((.*?)\\);\\s+// (-?\\d+)(:.*)?");
    private static final Pattern ANSWER = Pattern.compile("\\b(BAD|STATE|FULL|NONE|NO)\\b");
    private static final Pattern TUNE = Pattern.compile("(?m)^\\| (\\d) \\| [^|]* \\| (\\d+) \\.\\. (\\d+) \\| (\\d+) \\|$");
    private static final Pattern CONSTANT = Pattern.compile("`([A-Z]+)`(?: \\|)? \\(?(-\\d+)");
    private static final int CALLS = 30, TUNES = 5, CONSTANTS = 5;

    public static void main(String[] args) throws IOException, ReflectiveOperationException {
        String page = Files.readString(Path.of("README.md"));
        example(page);
        constants(page);
        tunes(page);
        tests(page);
        Path document = Path.of("../shared/DOC.md");
        if (Files.exists(document)) {
            String text = Files.readString(document);
            refusals(text, calls(page, text));
        } else {
            System.out.println("ReadmeTest: " + document + " is not there, so the page is not held against it");
        }
        CHECK.end();
    }

    private static void holds(String what, boolean holds) {
        CHECK.due(what, holds ? 1 : 0, 1);
    }

    /** Each line of the example is called, one after another, and answers what stands behind it. */
    private static void example(String page) throws ReflectiveOperationException {
        int start = page.indexOf("```java\n") + 8;
        String[] lines = page.substring(start, page.indexOf("```", start)).split("\n");
        holds("the example begins with a new object", lines[0].equals("OnlyBatteries x = new OnlyBatteries();"));
        OnlyBatteries x = new OnlyBatteries();
        for (int i = 1; i < lines.length; i++) {
            Matcher line = LINE.matcher(lines[i]);
            boolean isCall = line.matches();
            holds("'" + lines[i] + "' is a call with its answer", isCall);
            if (isCall) {
                CHECK.due(lines[i], answer(x, line.group(1), line.group(2)), Long.parseLong(line.group(3)));
            }
        }
        holds("the example is no shorter than it was", lines.length > 25);
    }

    private static long answer(OnlyBatteries x, String name, String row) throws ReflectiveOperationException {
        String[] numbers = row.isEmpty() ? new String[0] : row.split(", ");
        Method call = methodOf(name);
        Object[] given = new Object[numbers.length];
        for (int i = 0; i < given.length; i++) {
            long v = Long.decode(numbers[i].replace("L", ""));
            if (call.getParameterTypes()[i] == long.class) {
                given[i] = v;
            } else {
                given[i] = (int) v;
            }
        }
        return ((Number) call.invoke(x, given)).longValue();
    }

    private static Method methodOf(String name) {
        for (Method method : OnlyBatteries.class.getDeclaredMethods()) {
            if (method.getName().equals(name)) {
                return method;
            }
        }
        throw new IllegalStateException("the page calls what is not there: " + name);
    }

    private static void constants(String page) throws ReflectiveOperationException {
        TreeSet<String> told = new TreeSet<>();
        Matcher m = CONSTANT.matcher(page);
        while (m.find()) {
            told.add(m.group(1));
            CHECK.due(m.group(1), OnlyBatteries.class.getField(m.group(1)).getInt(null), Long.parseLong(m.group(2)));
        }
        CHECK.due("so many constants are told: " + told, told.size(), CONSTANTS);
    }

    /** The values at the ends are taken, those beyond are not; at first each is as told. */
    private static void tunes(String page) {
        int told = 0;
        Matcher m = TUNE.matcher(page);
        while (m.find()) {
            int what = Integer.parseInt(m.group(1));
            int least = Integer.parseInt(m.group(2));
            int most = Integer.parseInt(m.group(3));
            OnlyBatteries x = new OnlyBatteries();
            CHECK.due("tune " + what + " below", x.tune(what, least - 1), OnlyBatteries.BAD);
            CHECK.due("tune " + what + " above", x.tune(what, most + 1), OnlyBatteries.BAD);
            CHECK.due("tune " + what + " at first", x.tune(what, least), Integer.parseInt(m.group(4)));
            CHECK.due("tune " + what + " at its least", x.tune(what, most), least);
            CHECK.due("tune " + what + " at its greatest", x.tune(what, most), most);
            told++;
        }
        CHECK.due("so many tunes are told", told, TUNES);
    }

    /** The rows of the page's table, by the call's name; each call of the document's face has one. */
    private static Map<String, String> calls(String page, String document) {
        Map<String, String> rows = new TreeMap<>();
        Matcher face = Pattern.compile("(?m)^    public (?:int|long) (\\w+)(\\(.*\\));$").matcher(document);
        while (face.find()) {
            String head = "\n| `" + face.group(1) + face.group(2) + "` | ";
            int start = page.indexOf(head);
            holds("the page tells " + face.group(1) + face.group(2), start >= 0);
            if (start >= 0) {
                rows.put(face.group(1), page.substring(start + head.length(), page.indexOf("|\n", start)));
            }
        }
        CHECK.due("so many calls are told", rows.size(), CALLS);
        return rows;
    }

    /** Where a promise names BAD, STATE, .., the call's row does so too, and nowhere else. */
    private static void refusals(String document, Map<String, String> rows) {
        Matcher promise = Pattern.compile("(?m)^## Promise \\d+: (\\w+)\n\n`.*?`: (.*)$").matcher(document);
        int read = 0;
        while (promise.find()) {
            String row = rows.get(promise.group(1));
            if (row != null) {
                String last = row.substring(row.lastIndexOf("| ", row.length() - 1));
                TreeSet<String> due = answersIn(promise.group(2));
                TreeSet<String> told = answersIn(last);
                holds(promise.group(1) + " is told to answer " + told + ", due is " + due, told.equals(due));
                read++;
            }
        }
        CHECK.due("so many promises were read", read, CALLS);
    }

    private static TreeSet<String> answersIn(String text) {
        TreeSet<String> found = new TreeSet<>();
        Matcher m = ANSWER.matcher(text);
        while (m.find()) {
            found.add(m.group());
        }
        return found;
    }

    /** Every test has its row, every row its test; one command runs them all. */
    private static void tests(String page) throws IOException {
        TreeSet<String> there = new TreeSet<>();
        try (DirectoryStream<Path> files = Files.newDirectoryStream(Path.of("src/test/java"), "*Test.java")) {
            for (Path file : files) {
                there.add(file.getFileName().toString().replace(".java", ""));
            }
        }
        TreeSet<String> told = new TreeSet<>();
        Matcher m = Pattern.compile("(?m)^\\| (\\w+Test) \\| ").matcher(page);
        while (m.find()) {
            told.add(m.group(1));
        }
        holds("the tests that are told are " + told + ", there are " + there, told.equals(there));
        holds("one command is told", page.contains("```sh\n.ci/run\n```"));
        holds("it is there, and can be run", Files.isExecutable(Path.of(".ci/run")));
        for (String word : List.of("javac", "../shared", "512")) {
            holds("the page tells of " + word, page.contains(word));
        }
    }
}
