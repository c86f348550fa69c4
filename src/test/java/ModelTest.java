import java.util.Random;

/** Runs of up to 512 calls, drawn from a fixed seed, answered by FieldDesk as by the model. */
public final class ModelTest {
    private static final Random random = new Random(97);
    private static final Due due = new Due();
    private static final long[] EDGES = {
        Long.MIN_VALUE, -1, 0, 1, 2, 4, 5, 9, 10, 35, 36, 99, 100, 46655, 46656, 1679615, 1679616,
        2821109907455L, 2821109907456L, 999999999999999L, 1000000000000000L, Long.MAX_VALUE,
        1L << 32, (1L << 32) + 1, (1L << 32) + 4
    };
    private static final long[] MOST = {0, 1679615, 46655, 2821109907455L, 999999999999999L, 1, 99, 9, 4};
    private static int messagesRead = 0;

    private FieldDesk desk;
    private Model model;
    private String run;

    public static void main(String[] args) {
        for (int i = 0; i < 3000; i++) {
            new ModelTest().oneRun(i);
        }
        for (int i = 0; i < 20000; i++) {
            spoiltText(i);
        }
        due.is("there were many messages read", messagesRead > 3000, true);
        due.finish();
    }

    private void oneRun(int i) {
        desk = new FieldDesk();
        model = new Model();
        run = "run " + i + ": ";
        for (int calls = 0; calls < 512; calls++) {
            oneCall();
        }
    }

    private void oneCall() {
        int way = random.nextInt(100);
        // Most messages that are begun go on to their end, else few would be whole.
        boolean goesOn = model.nextSort() != 0 && random.nextInt(4) != 0;
        if (way < 45 || way < 52 && goesOn) {
            long number = numberToAdd();
            due.is(run + "add(" + number + ")", desk.add(number), model.add(number));
        } else if (way < 52) {
            int kind = random.nextInt(8) == 0 ? random.nextInt(20) - 2 : 1 + random.nextInt(15);
            due.is(run + "begin(" + kind + ")", desk.begin(kind), model.begin(kind));
        } else if (way < 62) {
            due.is(run + "end()", desk.end(), model.end());
        } else if (way < 70) {
            due.is(run + "copy()", desk.copy(), model.copy());
        } else if (way < 78) {
            int got = desk.read();
            due.is(run + "read()", got, model.read());
            messagesRead += got > 0 ? 1 : 0;
        } else if (way < 80) {
            int n = random.nextInt(12) - 1;
            long v = random.nextLong();
            due.is(run + "type(" + v + ", " + n + ")", desk.type(v, n), model.type(v, n));
        } else if (way < 86) {
            int i = random.nextInt(130) - 2;
            due.is(run + "byteOf(" + i + ")", desk.byteOf(i), model.byteOf(i));
        } else if (way < 88) {
            due.is(run + "fields()", desk.fields(), model.heardSorts.length());
        } else if (way < 94) {
            int k = random.nextInt(24) - 1;
            due.is(run + "sort(" + k + ")", desk.sort(k), model.sort(k));
        } else {
            int k = random.nextInt(24) - 1;
            due.is(run + "number(" + k + ")", desk.number(k), model.number(k));
        }
    }

    private long numberToAdd() {
        return random.nextInt(6) == 0 ? EDGES[random.nextInt(EDGES.length)] : random.nextLong(MOST[model.nextSort()] + 1);
    }

    private static void spoiltText(int i) {
        String text = spoil(message());
        String name = "text " + i + ": " + text;
        FieldDesk desk = new FieldDesk();
        Model model = new Model();
        due.is(name, Desk.type(desk, text), true);
        model.text.append(text);
        due.is(name, desk.read(), model.read());
        due.is(name, desk.fields(), model.heardSorts.length());
        for (int k = -1; k <= desk.fields(); k++) {
            due.is(name + " sort(" + k + ")", desk.sort(k), model.sort(k));
            due.is(name + " number(" + k + ")", desk.number(k), model.number(k));
        }
    }

    private static String message() {
        Model m = new Model();
        m.begin(1 + random.nextInt(15));
        for (int tries = 0; tries < 1000 && m.nextSort() != 0; tries++) {
            m.add(random.nextLong(MOST[m.nextSort()] + 1));
        }
        m.end();
        return m.written;
    }

    private static String spoil(String text) {
        StringBuilder s = new StringBuilder(text);
        for (int times = random.nextInt(3); times > 0; times--) {
            int place = random.nextInt(s.length());
            switch (random.nextInt(5)) {
                case 0 -> s.setCharAt(place, (char) random.nextInt(256));
                case 1 -> s.setCharAt(place, "0123456789ABCSZ/:@[`az".charAt(random.nextInt(22)));
                case 2 -> s.setLength(Math.max(1, place));
                case 3 -> s.append("0A\0".charAt(random.nextInt(3)));
                default -> s.setCharAt(s.length() - 1 - random.nextInt(Math.min(2, s.length())), (char) ('0' + random.nextInt(10)));
            }
        }
        return s.toString();
    }
}
