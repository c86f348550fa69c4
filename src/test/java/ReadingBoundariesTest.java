/** Promises 1 to 6: the sentences that name a boundary, each by itself. */
public final class ReadingBoundariesTest {
    private static final Due due = new Due();

    public static void main(String[] args) {
        newHasNoText();
        newHasNothingRead();
        newHasNothingWritten();
        objectsAreApart();
        lowestBytes();
        typeOtherN();
        typeMoreThan400();
        readFaultPlace();
        readFaultNothingRead();
        readEmptiesTheText();
        fieldsIfNone();
        sortIfNone();
        numberIfNone();
        due.finish();
    }

    private static void newHasNoText() {
        due.sentence("Promise 1: No text");
        due.is("read()", new FieldDesk().read(), -1);
        due.is("room for 400", roomLeft(new FieldDesk()), 400);
    }

    private static void newHasNothingRead() {
        due.sentence("Promise 1: nothing read");
        FieldDesk x = new FieldDesk();
        due.is("fields()", x.fields(), 0);
        due.is("sort(0)", x.sort(0), 0);
        due.is("number(0)", x.number(0), -1);
    }

    private static void newHasNothingWritten() {
        due.sentence("Promise 1: nothing written");
        FieldDesk x = new FieldDesk();
        due.is("byteOf(0)", x.byteOf(0), -1);
        due.is("add(0)", x.add(0), false);
        due.is("end()", x.end(), -1);
        due.is("copy()", x.copy(), false);
    }

    private static void objectsAreApart() {
        due.sentence("All memory is the class's own (a new object is new beside an old one)");
        FieldDesk old = Desk.with(14, 1, 2);
        old.copy();
        old.read();
        old.copy();
        FieldDesk x = new FieldDesk();
        due.is("fields()", x.fields(), 0);
        due.is("written", Desk.written(x), "");
        due.is("read()", x.read(), -1);
        x.begin(1);
        Desk.type(x, "NEW?");
        due.is("the old one's fields", Desk.heard(old), "1:1 3:2");
        due.is("the old one's writing", Desk.written(old), Samples.RES);
        due.is("the old one's text", old.read(), 14);
    }

    private static void lowestBytes() {
        due.sentence("Promise 2: The lowest n bytes of v, the highest of them first, come behind the text");
        for (int n = 1; n <= 8; n++) {
            FieldDesk x = new FieldDesk();
            for (int at = 0; at < 17; at += n) {
                String piece = Samples.RES.substring(at, Math.min(17, at + n));
                due.is("type(.., " + piece.length() + ")", x.type(Desk.asLong(piece), piece.length()), true);
            }
            due.is("read() in pieces of " + n, x.read(), 14);
            due.is("heard in pieces of " + n, Desk.heard(x), "1:1 3:2");
            aboveIsLeftOut(n);
        }
    }

    private static void aboveIsLeftOut(int n) {
        for (long above : new long[] {0, -1L, 0x4141414141414141L, Long.MIN_VALUE}) {
            FieldDesk x = new FieldDesk();
            Desk.type(x, Samples.RES.substring(0, 17 - n));
            long high = n == 8 ? 0 : above << (8 * n);
            due.is("type(.., " + n + ")", x.type(high | Desk.asLong(Samples.RES.substring(17 - n)), n), true);
            due.is("read() with " + high + " above " + n + " bytes", x.read(), 14);
        }
    }

    private static void typeOtherN() {
        due.sentence("Promise 2: false if n is not 1 .. 8");
        FieldDesk x = new FieldDesk();
        for (int n : new int[] {0, -1, -8, 9, 10, 16, 256, 257, 264, Integer.MIN_VALUE, Integer.MIN_VALUE + 1, Integer.MAX_VALUE}) {
            due.is("type('R', " + n + ")", x.type('R', n), false);
        }
        due.is("no byte has come", roomLeft(x), 400);
        due.is("type('R', 1)", new FieldDesk().type('R', 1), true);
        due.is("type('R', 8)", new FieldDesk().type('R', 8), true);
    }

    private static void typeMoreThan400() {
        due.sentence("Promise 2: false if there would be more than 400");
        for (int n = 1; n <= 8; n++) {
            FieldDesk full = withText(400 - n);
            due.is(400 - n + " bytes and " + n, full.type(0, n), true);
            due.is("one more than 400", full.type(0, 1), false);
            FieldDesk over = withText(401 - n);
            due.is(401 - n + " bytes and " + n, over.type(0, n), false);
            due.is("the room that there was", roomLeft(over), n - 1);
            due.is("400 bytes and " + n, withText(400).type(0, n), false);
        }
        FieldDesk x = withText(400);
        x.read();
        due.is("room again after read()", roomLeft(x), 400);
    }

    private static void readFaultPlace() {
        due.sentence("Promise 3: its kind; or -1 - the place of its fault");
        for (int kind = 1; kind <= 15; kind++) {
            due.is("read() of " + Samples.MESSAGES[kind], Desk.read(Samples.MESSAGES[kind]), kind);
        }
        due.is("the first place", Desk.read("?"), -1);
        due.is("the second place", Desk.read("R?"), -2);
        due.is("the last place of the longest", Desk.read(Samples.PAY_4_LEGS.substring(0, 120) + "?"), -121);
        due.is("the last check digit of the longest", Desk.read(Samples.PAY_4_LEGS.substring(0, 122) + "?"), -123);
        due.is("behind the longest", Desk.read(Samples.PAY_4_LEGS + "?"), -124);
    }

    private static void readFaultNothingRead() {
        due.sentence("Promise 3: then nothing is read");
        for (String faulty : new String[] {"", "?", "RES", "RES0001000000024", "RES00010000000242", "RES000100000002410",
                "AST000100000002003C1", "PAY00010000000290", Samples.PAY_4_LEGS.substring(0, 122)}) {
            FieldDesk x = new FieldDesk();
            Desk.type(x, Samples.PAY);
            x.read();
            due.is("before it", x.fields(), 8);
            Desk.type(x, faulty);
            due.is("a fault in " + faulty, x.read() < 0, true);
            due.is("fields() after " + faulty, x.fields(), 0);
            due.is("sort(0) after " + faulty, x.sort(0), 0);
            due.is("number(0) after " + faulty, x.number(0), -1);
        }
    }

    private static void readEmptiesTheText() {
        due.sentence("Promise 3: the text, which has no bytes then");
        for (String text : new String[] {Samples.RES, "RES00010000000242", "RES000", "?", Samples.RES + "0"}) {
            FieldDesk x = new FieldDesk();
            Desk.type(x, text);
            x.read();
            due.is("read() again after " + text, x.read(), -1);
            Desk.type(x, text);
            x.read();
            due.is("room after " + text, roomLeft(x), 400);
        }
    }

    private static void fieldsIfNone() {
        due.sentence("Promise 4: 0 if none is");
        FieldDesk x = new FieldDesk();
        due.is("of a new object", x.fields(), 0);
        Desk.type(x, Samples.RES);
        due.is("of a text that is not yet read", x.fields(), 0);
        x.begin(14);
        x.add(1);
        due.is("of a message that is written", x.fields(), 0);
        x.read();
        due.is("of RES", x.fields(), 2);
        x.read();
        due.is("after no text", x.fields(), 0);
    }

    private static void sortIfNone() {
        due.sentence("Promise 5: 0 if there is none");
        due.is("of a new object", new FieldDesk().sort(0), 0);
        for (int kind = 1; kind <= 15; kind++) {
            FieldDesk x = heard(kind);
            int count = x.fields();
            due.is("the first, kind " + kind, x.sort(0), 1);
            due.is("the last, kind " + kind, x.sort(count - 1) > 0, true);
            for (int k : outside(count)) {
                due.is("sort(" + k + "), kind " + kind, x.sort(k), 0);
            }
        }
    }

    private static void numberIfNone() {
        due.sentence("Promise 6: -1 if there is none");
        due.is("of a new object", new FieldDesk().number(0), -1);
        for (int kind = 1; kind <= 15; kind++) {
            FieldDesk x = heard(kind);
            int count = x.fields();
            due.is("the first, kind " + kind, x.number(0), 1);
            due.is("the last, kind " + kind, x.number(count - 1), Samples.numbers(kind)[count - 1]);
            for (int k : outside(count)) {
                due.is("number(" + k + "), kind " + kind, x.number(k), -1);
            }
        }
    }

    /** A desk that has read a kind's message, after the one with the most fields. */
    private static FieldDesk heard(int kind) {
        FieldDesk x = new FieldDesk();
        Desk.type(x, Samples.PAY_4_LEGS);
        x.read();
        Desk.type(x, Samples.MESSAGES[kind]);
        due.is("read()", x.read(), kind);
        return x;
    }

    private static int[] outside(int count) {
        return new int[] {-1, -2, count, count + 1, 20, 21, 400, Integer.MIN_VALUE, Integer.MAX_VALUE};
    }

    private static FieldDesk withText(int length) {
        FieldDesk x = new FieldDesk();
        Desk.type(x, "0".repeat(length));
        return x;
    }

    /** How many bytes can be typed yet. */
    private static int roomLeft(FieldDesk x) {
        int room = 0;
        while (room <= 400 && x.type('0', 1)) {
            room++;
        }
        return room;
    }
}
