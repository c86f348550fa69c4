import java.util.TreeSet;

/** Promises 7 to 11: the sentences that name a boundary, each by itself. */
public final class WritingBoundariesTest {
    private static final Due due = new Due();

    public static void main(String[] args) {
        beginWrittenIsGone();
        beginNoSuchKind();
        addNoneIsWritten();
        addNoFieldMore();
        addNoneOfItsSort();
        addClassC();
        endGreaterOnes();
        endHowManyBytes();
        endHasNotAll();
        endNoMessage();
        endHasThemAlready();
        byteAsFarAsItIs();
        byteIfNone();
        copyMoreThan400();
        copyNothingWritten();
        copyComesBehind();
        due.finish();
    }

    private static void beginWrittenIsGone() {
        due.sentence("Promise 7: what was written is gone");
        for (int added = 0; added <= 21; added++) {
            FieldDesk x = started(6, Math.min(added, 20));
            if (added == 21) {
                due.is("end()", x.end(), 123);
            }
            due.is("begin(14) after " + added, x.begin(14), true);
            due.is("written after " + added, Desk.written(x), "RES");
            due.is("no field is left, after " + added, x.end(), -1);
            due.is("its fields from the first on, after " + added, x.add(1) && x.add(2), true);
            due.is("no more than its own, after " + added, x.add(1), false);
            due.is("end() after " + added, x.end(), 17);
            due.is("written after " + added, Desk.written(x), Samples.RES);
        }
        FieldDesk x = started(2, 3);
        x.add(0);
        due.is("begin(2) after class C", x.begin(2) && x.add(1) && x.add(2) && x.add(3) && x.add(1), true);
        due.is("class C is gone", x.add(5), true);
        x = started(6, 3);
        x.add(4);
        due.is("begin(6) after four legs", x.begin(6) && x.add(1) && x.add(2) && x.add(3) && x.add(1), true);
        due.is("four legs are gone", x.add(1) && x.add(1) && x.add(1) && x.add(1) && !x.add(1), true);
    }

    private static void beginNoSuchKind() {
        due.sentence("Promise 7: false if there is no such kind");
        for (int kind : new int[] {0, -1, -2, 16, 17, 18, 256, 257, Integer.MIN_VALUE, Integer.MIN_VALUE + 1, Integer.MAX_VALUE}) {
            FieldDesk x = new FieldDesk();
            due.is("begin(" + kind + ")", x.begin(kind), false);
            due.is("nothing is written", x.byteOf(0), -1);
            due.is("nothing is written", x.copy(), false);
            x = Desk.with(14, 1, 2);
            due.is("begin(" + kind + ")", x.begin(kind), false);
            due.is("what was written stays", Desk.written(x), Samples.RES);
        }
        for (int kind = 1; kind <= 15; kind++) {
            FieldDesk x = new FieldDesk();
            due.is("begin(" + kind + ")", x.begin(kind), true);
            due.is("its kind", Desk.written(x), Samples.NAMES[kind]);
        }
    }

    private static void addNoneIsWritten() {
        due.sentence("Promise 8: false if none is written");
        FieldDesk x = new FieldDesk();
        due.is("add(0)", x.add(0), false);
        due.is("add(1)", x.add(1), false);
        x.begin(0);
        due.is("after begin(0)", x.add(1), false);
        Desk.type(x, Samples.RES);
        x.read();
        due.is("what was read is not written", x.add(1), false);
        due.is("nothing is written", Desk.written(x), "");
    }

    private static void addNoFieldMore() {
        due.sentence("Promise 8: false if there is no such field more");
        for (int kind = 1; kind <= 15; kind++) {
            FieldDesk x = started(kind, Samples.numbers(kind).length);
            String body = Desk.written(x);
            for (long number : new long[] {0, 1, 4, 9}) {
                due.is("kind " + kind + ", add(" + number + ")", x.add(number), false);
            }
            due.is("kind " + kind, Desk.written(x), body);
            x.end();
            due.is("kind " + kind + ", behind the check digits", x.add(1), false);
            due.is("kind " + kind, Desk.written(x), Samples.MESSAGES[kind]);
        }
        for (int legs = 1; legs <= 4; legs++) {
            FieldDesk x = started(6, 3);
            x.add(legs);
            for (int k = 0; k < 4 * legs; k++) {
                due.is("field " + k + " of " + legs + " legs", x.add(1), true);
            }
            due.is("behind " + legs + " legs", x.add(1), false);
            due.is("end() with " + legs + " legs", x.end(), 19 + 26 * legs);
        }
    }

    private static void addNoneOfItsSort() {
        due.sentence("Promise 8: false if the number is none of its sort");
        long[] least = {0, 0, 0, 0, 0, 0, 0, 1, 1};
        long[] most = {0, 1679615, 46655, 2821109907455L, 999999999999999L, 1, 99, 9, 4};
        for (int kind = 1; kind <= 15; kind++) {
            long[] numbers = Samples.numbers(kind);
            String[] fields = Samples.FIELDS[kind].split(" ");
            for (int k = 0; k < numbers.length; k++) {
                int sort = fields[k].charAt(0) - '0';
                String field = "kind " + kind + ", field " + k;
                due.is(field + ", too small", started(kind, k).add(least[sort] - 1), false);
                due.is(field + ", the least", started(kind, k).add(least[sort]), true);
                due.is(field + ", the most", started(kind, k).add(most[sort]), true);
                due.is(field + ", too large", started(kind, k).add(most[sort] + 1), false);
                due.is(field + ", lowest", started(kind, k).add(Long.MIN_VALUE), false);
                due.is(field + ", highest", started(kind, k).add(Long.MAX_VALUE), false);
                FieldDesk x = started(kind, k);
                x.add(most[sort] + 1);
                due.is(field + " is due still", x.add(numbers[k]), true);
            }
        }
    }

    private static void addClassC() {
        due.sentence("Promise 8: (in AST of class C, not 0)");
        FieldDesk x = started(2, 3);
        due.is("class C", x.add(0), true);
        due.is("amount 1", x.add(1), false);
        due.is("amount -1", x.add(-1), false);
        due.is("the highest amount", x.add(999999999999999L), false);
        due.is("amount 0", x.add(0), true);
        due.is("haircut 1", x.add(1), false);
        due.is("haircut 99", x.add(99), false);
        due.is("haircut 0", x.add(0), true);
        due.is("end()", x.end(), 38);
        due.is("written", Desk.written(x), Model.withCheckDigits("AST000100000002003C00000000000000000"));
        x = started(2, 3);
        due.is("class S", x.add(1) && x.add(1) && x.add(1), true);
    }

    private static void endGreaterOnes() {
        due.sentence("Promise 9: of two that fit, as 01 and 98, the greater ones: 02 .. 98");
        due.is("98, not 01", Desk.written(Desk.with(14, 1, 24)), "RES00010000000O98");
        due.is("97, not 00", Desk.written(Desk.with(14, 1, 152)), "RES00010000004897");
        due.is("02, not 99", Desk.written(Desk.with(14, 1, 41)), "RES00010000001502");
        TreeSet<String> seen = new TreeSet<>();
        for (int reference = 0; reference < 1000; reference++) {
            FieldDesk x = Desk.with(14, 1, reference);
            String message = Desk.written(x);
            due.is("reference " + reference, message, Model.withCheckDigits(message.substring(0, 15)));
            due.is("read() of " + message, Desk.read(message), 14);
            seen.add(message.substring(15));
        }
        due.is("all of 02 .. 98", seen.size(), 97);
        due.is("from 02 on", seen.first(), "02");
        due.is("to 98", seen.last(), "98");
    }

    private static void endHowManyBytes() {
        due.sentence("Promise 9: if it has all fields: how many bytes it has");
        int[] bytes = {0, 21, 38, 37, 39, 39, 123, 29, 25, 26, 36, 21, 35, 35, 17, 17};
        for (int kind = 1; kind <= 15; kind++) {
            FieldDesk x = started(kind, Samples.numbers(kind).length);
            due.is("end() of kind " + kind, x.end(), bytes[kind]);
            due.is("written of kind " + kind, Desk.written(x), Samples.MESSAGES[kind]);
        }
    }

    private static void endHasNotAll() {
        due.sentence("Promise 9: -1, refused, if it has not all");
        for (int kind = 1; kind <= 15; kind++) {
            long[] numbers = Samples.numbers(kind);
            for (int k = 0; k < numbers.length; k++) {
                FieldDesk x = started(kind, k);
                String before = Desk.written(x);
                due.is("kind " + kind + " with " + k, x.end(), -1);
                due.is("kind " + kind + " with " + k + " stays", Desk.written(x), before);
                due.is("kind " + kind + " with " + k + " goes on", x.add(numbers[k]), true);
            }
        }
    }

    private static void endNoMessage() {
        due.sentence("Promise 9: -1, refused, if no message is written");
        FieldDesk x = new FieldDesk();
        due.is("end()", x.end(), -1);
        due.is("nothing is written", x.byteOf(0), -1);
        x.begin(16);
        due.is("after begin(16)", x.end(), -1);
        Desk.type(x, Samples.RES);
        x.read();
        due.is("after read()", x.end(), -1);
        due.is("nothing is written", x.copy(), false);
    }

    private static void endHasThemAlready() {
        due.sentence("Promise 9: -1, refused, if it has them already");
        for (int kind = 1; kind <= 15; kind++) {
            FieldDesk x = Desk.with(kind, Samples.numbers(kind));
            due.is("kind " + kind + " again", x.end(), -1);
            due.is("kind " + kind + " and again", x.end(), -1);
            due.is("kind " + kind + " stays", Desk.written(x), Samples.MESSAGES[kind]);
            x.begin(14);
            due.is("a new one has none", x.add(1) && x.add(2) && x.end() == 17, true);
        }
    }

    private static void byteAsFarAsItIs() {
        due.sentence("Promise 10: Byte i of what is written, as far as it is");
        int[] signs = {0, 4, 3, 8, 15, 1, 2, 1, 1};
        for (int kind = 1; kind <= 15; kind++) {
            String[] fields = Samples.FIELDS[kind].split(" ");
            int length = 3;
            for (int k = 0; k <= fields.length; k++) {
                FieldDesk x = started(kind, k);
                due.is("kind " + kind + " with " + k, Desk.written(x), Samples.MESSAGES[kind].substring(0, length));
                due.is("the last byte", x.byteOf(length - 1), Samples.MESSAGES[kind].charAt(length - 1));
                due.is("the byte behind", x.byteOf(length), -1);
                length += k < fields.length ? signs[fields[k].charAt(0) - '0'] : 2;
            }
            FieldDesk x = Desk.with(kind, Samples.numbers(kind));
            due.is("the last check digit", x.byteOf(length - 1), Samples.MESSAGES[kind].charAt(length - 1));
            due.is("the byte behind it", x.byteOf(length), -1);
        }
    }

    private static void byteIfNone() {
        due.sentence("Promise 10: -1 if there is none");
        FieldDesk empty = new FieldDesk();
        FieldDesk shorter = Desk.with(6, Samples.numbers(6));
        shorter.begin(14);
        for (int i : new int[] {-1, -2, 3, 4, 16, 17, 122, 123, 400, Integer.MIN_VALUE, Integer.MAX_VALUE}) {
            due.is("nothing written, byteOf(" + i + ")", empty.byteOf(i), -1);
            due.is("RES behind a longer one, byteOf(" + i + ")", shorter.byteOf(i), -1);
        }
        due.is("nothing written, byteOf(0)", empty.byteOf(0), -1);
        FieldDesk longest = Desk.with(6, Samples.numbers(6));
        due.is("the last of the longest", longest.byteOf(122), '8');
        due.is("behind the longest", longest.byteOf(123), -1);
    }

    private static void copyMoreThan400() {
        due.sentence("Promise 11: false if there would be more than 400 bytes");
        for (int kind = 1; kind <= 15; kind++) {
            int length = Samples.MESSAGES[kind].length();
            FieldDesk x = Desk.with(kind, Samples.numbers(kind));
            Desk.type(x, "0".repeat(400 - length));
            due.is("kind " + kind + ", 400", x.copy(), true);
            due.is("kind " + kind + ", full", x.type(0, 1), false);
            due.is("kind " + kind + ", full", x.copy(), false);
            x = Desk.with(kind, Samples.numbers(kind));
            Desk.type(x, "0".repeat(401 - length));
            due.is("kind " + kind + ", 401", x.copy(), false);
            due.is("kind " + kind + ", the room stays", Desk.type(x, "0".repeat(length - 1)), true);
            due.is("kind " + kind + ", and no more", x.type(0, 1), false);
            x.read();
            due.is("kind " + kind + ", room again", x.copy() && x.read() == kind, true);
        }
        FieldDesk x = new FieldDesk();
        x.begin(14);
        Desk.type(x, "0".repeat(397));
        due.is("a kind alone, 400", x.copy(), true);
        due.is("a kind alone, 403", x.copy(), false);
    }

    private static void copyNothingWritten() {
        due.sentence("Promise 11: false if nothing is written");
        FieldDesk x = new FieldDesk();
        due.is("copy()", x.copy(), false);
        Desk.type(x, Samples.RES);
        due.is("with a text", x.copy(), false);
        due.is("the text stays", x.read(), 14);
        due.is("with a message read", x.copy(), false);
        x.begin(0);
        due.is("after begin(0)", x.copy(), false);
        due.is("no text", x.read(), -1);
    }

    private static void copyComesBehind() {
        due.sentence("Promise 11: What is written comes behind the text");
        for (int kind = 1; kind <= 15; kind++) {
            String message = Samples.MESSAGES[kind];
            FieldDesk x = Desk.with(kind, Samples.numbers(kind));
            due.is("copy()", x.copy(), true);
            due.is("read()", x.read(), kind);
            due.is("heard", Desk.heard(x), Samples.FIELDS[kind]);
            due.is("twice", x.copy() && x.copy() && x.read() == -1 - message.length(), true);
            x = started(kind, Samples.numbers(kind).length);
            due.is("copy() before the check digits", x.copy(), true);
            Desk.type(x, message.substring(message.length() - 2));
            due.is("and they typed behind", x.read(), kind);
        }
    }

    /** A desk on which a kind's sample message is written, as far as its first fields. */
    private static FieldDesk started(int kind, int fields) {
        FieldDesk x = new FieldDesk();
        due.is("begin(" + kind + ")", x.begin(kind), true);
        long[] numbers = Samples.numbers(kind);
        for (int k = 0; k < fields; k++) {
            due.is("kind " + kind + ", add(" + numbers[k] + ")", x.add(numbers[k]), true);
        }
        return x;
    }
}
