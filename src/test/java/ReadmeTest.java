import java.io.IOException;
import java.nio.file.Files;
import java.nio.file.Path;
import java.util.List;
import java.util.Set;
import java.util.TreeSet;
import java.util.regex.Matcher;
import java.util.regex.Pattern;

/** What README.md tells of the class is so: every call in it answers as it stands there, and so do its tables. */
public final class ReadmeTest {
    private static final Pattern CALL = Pattern.compile("desk\\.(\\w+)\\(([^)]*)\\); +// ([^\\s:]+)(?:: .+)?");
    private static final Pattern KIND = Pattern.compile("\\| (\\d+) \\| ([A-Z]{3}) \\| ([1-8 ]+)(, then 1 1 2 4 for each leg)? \\|");
    private static final Pattern SORT = Pattern.compile("\\| (\\d) \\| [a-z ]+ \\| (\\d+)\\D.* \\| (\\d+) \\.\\. (\\d+) \\|");
    private static final Set<String> FACE = Set.of(
        "type", "read", "fields", "sort", "number", "begin", "add", "end", "byteOf", "copy");

    private static final Due due = new Due();
    private static final Set<String> called = new TreeSet<>();
    private static FieldDesk desk = new FieldDesk();
    private static int kinds = 0;
    private static int sorts = 0;

    public static void main(String[] args) throws IOException {
        boolean inCalls = false;
        for (String line : Files.readAllLines(Path.of("README.md"))) {
            if (line.startsWith("```")) {
                inCalls = line.equals("```java");
            } else if (inCalls) {
                call(line);
            } else if (line.startsWith("| ")) {
                row(line);
            }
        }
        due.is("calls of README.md", called.toString(), new TreeSet<>(FACE).toString());
        due.is("kinds in README.md", kinds, 15);
        due.is("sorts in README.md", sorts, 8);
        due.finish();
    }

    private static void call(String line) {
        if (line.equals("FieldDesk desk = new FieldDesk();")) {
            desk = new FieldDesk();
            return;
        }
        Matcher m = CALL.matcher(line);
        due.is("a call with its answer: " + line, m.matches(), true);
        if (m.matches()) {
            called.add(m.group(1));
            due.is(line, answer(m.group(1), arguments(m.group(2))), m.group(3));
        }
    }

    private static long[] arguments(String words) {
        String[] each = words.isEmpty() ? new String[0] : words.split(", ");
        long[] numbers = new long[each.length];
        for (int i = 0; i < each.length; i++) {
            numbers[i] = Long.decode(each[i].replace("L", ""));
        }
        return numbers;
    }

    private static String answer(String name, long[] a) {
        return switch (name) {
            case "type" -> "" + desk.type(a[0], (int) a[1]);
            case "read" -> "" + desk.read();
            case "fields" -> "" + desk.fields();
            case "sort" -> "" + desk.sort((int) a[0]);
            case "number" -> "" + desk.number((int) a[0]);
            case "begin" -> "" + desk.begin((int) a[0]);
            case "add" -> "" + desk.add(a[0]);
            case "end" -> "" + desk.end();
            case "byteOf" -> "" + desk.byteOf((int) a[0]);
            case "copy" -> "" + desk.copy();
            default -> "no such call";
        };
    }

    private static void row(String line) {
        Matcher kind = KIND.matcher(line);
        Matcher sort = SORT.matcher(line);
        if (kind.matches()) {
            kinds++;
            kind(Integer.parseInt(kind.group(1)), kind.group(2), kind.group(3), kind.group(4) != null);
        } else if (sort.matches()) {
            sorts++;
            sort(Integer.parseInt(sort.group(1)), Integer.parseInt(sort.group(2)),
                Long.parseLong(sort.group(3)), Long.parseLong(sort.group(4)));
        } else {
            due.is("a row of kinds or sorts, or above one: " + line,
                List.of("| Kind", "| Sort").contains(line.substring(0, 6)), true);
        }
    }

    private static void kind(int kind, String letters, String sortsOfKind, boolean hasLegs) {
        FieldDesk x = new FieldDesk();
        x.begin(kind);
        due.is("letters of kind " + kind, Desk.written(x), letters);
        x = Desk.with(kind, Samples.numbers(kind));
        x.copy();
        x.read();
        StringBuilder got = new StringBuilder();
        for (int k = 0; k < x.fields(); k++) {
            got.append(k == 0 ? "" : " ").append(x.sort(k));
        }
        due.is("sorts of kind " + kind, got.toString(), sortsOfKind + (hasLegs ? " 1 1 2 4".repeat(4) : ""));
    }

    private static void sort(int sort, int signs, long lowest, long highest) {
        String name = "sort " + sort + " add ";
        due.is(name + (lowest - 1), upTo(sort).add(lowest - 1), false);
        due.is(name + lowest, upTo(sort).add(lowest), true);
        due.is(name + highest, upTo(sort).add(highest), true);
        due.is(name + (highest + 1), upTo(sort).add(highest + 1), false);
        FieldDesk x = upTo(sort);
        int before = Desk.written(x).length();
        x.add(highest);
        due.is("signs of sort " + sort, Desk.written(x).length() - before, signs);
    }

    /** A desk on which a field of the sort is to be added next. */
    private static FieldDesk upTo(int sort) {
        int kind = 1;
        while (!Samples.FIELDS[kind].contains(sort + ":")) {
            kind++;
        }
        String[] fields = Samples.FIELDS[kind].split(" ");
        FieldDesk x = new FieldDesk();
        x.begin(kind);
        for (int k = 0; !fields[k].startsWith(sort + ":"); k++) {
            x.add(Samples.numbers(kind)[k]);
        }
        return x;
    }
}
