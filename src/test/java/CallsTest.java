import java.util.function.BiConsumer;

/** 'What it is': an object answers as due up to its 512th call, and no call throws, whatever it is given. */
public final class CallsTest {
    private static final Due due = new Due();
    private static final int CALLS = 512;
    private static final long[] EXTREMES = {
        Long.MIN_VALUE, Long.MIN_VALUE + 1, Integer.MIN_VALUE, -1, 0, 1, 2, 3, 14, 15, 16, 20, 123, 400, Integer.MAX_VALUE,
        1L << 32, Long.MAX_VALUE
    };

    public static void main(String[] args) {
        eachCall512Times();
        lastCallOfALongRun();
        textOf512Calls();
        noCallThrows();
        due.finish();
    }

    private static void eachCall512Times() {
        eachReadingCall512Times();
        eachWritingCall512Times();
    }

    private static void eachReadingCall512Times() {
        due.sentence("An object is used for at most 512 calls (of one name, reading)");
        FieldDesk x = new FieldDesk();
        for (int i = 0; i < CALLS; i++) {
            due.is("type " + i, x.type('0', 1), i < 400);
        }
        x = new FieldDesk();
        for (int i = 0; i < CALLS; i++) {
            due.is("read " + i, x.read(), -1);
        }
        // Three calls type RES and one reads it.
        x = readRes();
        for (int i = 4; i < CALLS; i++) {
            due.is("fields " + i, x.fields(), 2);
        }
        x = readRes();
        for (int i = 4; i < CALLS; i++) {
            due.is("sort " + i, x.sort(i - 4), i == 4 ? 1 : i == 5 ? 3 : 0);
        }
        x = readRes();
        for (int i = 4; i < CALLS; i++) {
            due.is("number " + i, x.number(i - 4), i == 4 ? 1 : i == 5 ? 2 : -1);
        }
    }

    private static FieldDesk readRes() {
        FieldDesk x = new FieldDesk();
        Desk.type(x, Samples.RES);
        x.read();
        return x;
    }

    private static void eachWritingCall512Times() {
        due.sentence("An object is used for at most 512 calls (of one name, writing)");
        FieldDesk x = new FieldDesk();
        for (int i = 0; i < CALLS; i++) {
            due.is("begin " + i, x.begin(1 + i % 15), true);
        }
        x = new FieldDesk();
        x.begin(6);
        for (int i = 1; i < CALLS; i++) {
            due.is("add " + i, x.add(4), i <= 20);
        }
        x = new FieldDesk();
        x.begin(15);
        for (int i = 1; i < CALLS; i++) {
            due.is("copy " + i, x.copy(), i <= 133);
        }
        x = Desk.with(15, 1, 2);
        for (int i = 4; i < CALLS; i++) {
            due.is("end " + i, x.end(), -1);
        }
        x = Desk.with(15, 1, 2);
        for (int i = 4; i < CALLS; i++) {
            due.is("byteOf " + i, x.byteOf(i - 4), i - 4 < 17 ? "STM00010000000219".charAt(i - 4) : -1);
        }
    }

    private static void lastCallOfALongRun() {
        due.sentence("An object is used for at most 512 calls (of all names)");
        // The dearest round: the longest message written, copied and read, 24 calls, 21 times.
        FieldDesk x = new FieldDesk();
        long[] numbers = Samples.numbers(6);
        int calls = 0;
        for (int round = 0; round < 21; round++) {
            due.is("begin(6), round " + round, x.begin(6), true);
            for (long number : numbers) {
                due.is("add(" + number + "), round " + round, x.add(number), true);
            }
            due.is("end(), round " + round, x.end(), 123);
            due.is("copy(), round " + round, x.copy(), true);
            due.is("read(), round " + round, x.read(), 6);
            calls += 24;
        }
        due.is("calls so far", calls, 504);
        due.is("505 fields()", x.fields(), 20);
        due.is("506 sort(19)", x.sort(19), 4);
        due.is("507 number(19)", x.number(19), 16);
        due.is("508 byteOf(122)", x.byteOf(122), '8');
        due.is("509 copy()", x.copy(), true);
        due.is("510 copy()", x.copy(), true);
        due.is("511 copy()", x.copy(), true);
        due.is("512 read()", x.read(), -124);
    }

    private static void textOf512Calls() {
        due.sentence("An object is used for at most 512 calls (400 bytes typed one by one, then read)");
        FieldDesk x = new FieldDesk();
        for (int call = 1; call < 95; call++) {
            due.is("call " + call, x.type('0', 1), true);
        }
        due.is("call 95", x.read(), -1);
        String text = Samples.RES + "0".repeat(383);
        for (int i = 0; i < 400; i++) {
            due.is("call " + (96 + i), x.type(text.charAt(i), 1), true);
        }
        for (int call = 496; call < CALLS; call++) {
            due.is("call " + call + ", full", x.type('0', 1), false);
        }
        due.is("call 512", x.read(), -18);
    }

    private static void noCallThrows() {
        due.sentence("No call throws, whatever it is given");
        for (int state = 0; state < 6; state++) {
            for (long a : EXTREMES) {
                extremes(state, a);
            }
        }
    }

    private static void extremes(int state, long a) {
        each(state, a, "type", (x, v) -> {
            for (long n : EXTREMES) {
                x.type(v, (int) n);
            }
        });
        each(state, a, "sort", (x, v) -> x.sort(v.intValue()));
        each(state, a, "number", (x, v) -> x.number(v.intValue()));
        each(state, a, "begin", (x, v) -> x.begin(v.intValue()));
        each(state, a, "add", FieldDesk::add);
        each(state, a, "byteOf", (x, v) -> x.byteOf(v.intValue()));
    }

    private static void each(int state, long a, String name, BiConsumer<FieldDesk, Long> call) {
        FieldDesk x = in(state);
        String thrown = "nothing";
        try {
            call.accept(x, a);
            x.fields();
            x.copy();
            x.end();
            x.read();
        } catch (RuntimeException e) {
            thrown = e.toString();
        }
        due.is(name + "(" + a + ") in state " + state + " threw", thrown, "nothing");
    }

    private static FieldDesk in(int state) {
        FieldDesk x = new FieldDesk();
        if (state > 0) {
            Desk.type(x, Samples.PAY_4_LEGS);
            x.read();
        }
        if (state > 1) {
            x.begin(6);
        }
        for (int k = 0; state > 2 && k < 20; k++) {
            x.add(4);
        }
        if (state > 3) {
            x.end();
        }
        if (state > 4) {
            Desk.type(x, "P".repeat(400));
        }
        return x;
    }
}
