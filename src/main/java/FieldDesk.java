/**
 * Messages of fixed fields with check digits, both ways: a text is read as fields, or told where
 * it is faulty; fields are written as a text.
 */
public final class FieldDesk {
    private static final int MOST_TEXT = 400;
    // PAY with four legs is the longest: 3 + 4 + 8 + 1 + 1, four times 26, and 2 check digits.
    private static final int MOST_MESSAGE = 123;
    private static final int MOST_FIELDS = 20;
    private static final int NO_FAULT = -1;

    private static final int REFERENCE = 3;
    private static final int CLASS = 5;

    // Rows by sort, from 1 on; the first place stands for no sort.
    private static final int[] SIGNS = {0, 4, 3, 8, 15, 1, 2, 1, 1};
    private static final int[] LEAST_VALUE = {0, 0, 0, 0, 0, 0, 0, 1, 1};
    private static final int[] MOST_VALUE = {0, 35, 35, 35, 9, 1, 9, 9, 4};
    private static final long[] MOST_NUMBER = {
        0L, 1679615L, 46655L, 2821109907455L, 999999999999999L, 1L, 99L, 9L, 4L
    };

    private static final int KINDS = 15;
    private static final int AST = 2;
    private static final int PAY = 6;
    private static final int KIND_SIGNS = 3;
    private static final String KIND_LETTERS = "NEWASTPRCISSREDPAYCNFCANPRILIMUNLPLGUNPRESSTM";

    // Six places a kind, 0 where it has no such field; the legs of PAY stand apart.
    private static final int KIND_FIELDS = 6;
    private static final int[] KIND_SORTS = {
        1, 3, 1, 0, 0, 0,
        1, 3, 2, 5, 4, 6,
        1, 3, 2, 4, 6, 0,
        1, 3, 2, 1, 4, 0,
        1, 3, 2, 1, 4, 0,
        1, 3, 7, 8, 0, 0,
        1, 3, 1, 3, 0, 0,
        1, 3, 3, 0, 0, 0,
        1, 3, 3, 7, 0, 0,
        1, 3, 1, 4, 0, 0,
        1, 3, 1, 0, 0, 0,
        1, 3, 2, 4, 0, 0,
        1, 3, 2, 4, 0, 0,
        1, 3, 0, 0, 0, 0,
        1, 3, 0, 0, 0, 0
    };
    private static final int[] LEG_SORTS = {1, 1, 2, 4};
    private static final int LEG_FIELDS = 4;
    private static final int FIRST_LEG_FIELD = 4;
    // Field 3 rules what follows it: in AST it is the class, in PAY how many legs come.
    private static final int RULING_FIELD = 3;

    private final Row text = new Row(MOST_TEXT);
    private final Message heard = new Message();
    private final Row written = new Row(MOST_MESSAGE);
    private final Message told = new Message();
    private boolean hasCheckDigits = false;

    public FieldDesk() {
    }

    public boolean type(long v, int n) {
        if (n < 1 || n > 8 || !text.hasRoomFor(n)) {
            return false;
        }
        for (int i = n - 1; i >= 0; i--) {
            text.append((int) (v >>> (8 * i)) & 255);
        }
        return true;
    }

    public int read() {
        int fault = hearText();
        text.clear();
        if (fault != NO_FAULT) {
            heard.start(0);
            return -1 - fault;
        }
        return heard.kind;
    }

    public int fields() {
        return heard.count;
    }

    public int sort(int k) {
        return heard.sortAt(k);
    }

    public long number(int k) {
        return heard.numberAt(k);
    }

    public boolean begin(int kind) {
        if (kind < 1 || kind > KINDS) {
            return false;
        }
        told.start(kind);
        hasCheckDigits = false;
        written.clear();
        for (int i = 0; i < KIND_SIGNS; i++) {
            written.append(letterOf(kind, i));
        }
        return true;
    }

    public boolean add(long number) {
        if (!told.suits(number)) {
            return false;
        }
        writeField(told.dueSort(), number);
        told.take(number);
        return true;
    }

    public int end() {
        if (told.kind == 0 || hasCheckDigits || told.dueSort() != 0) {
            return -1;
        }
        int digits = 98 - written.remainder() * 100 % 97;
        written.append('0' + digits / 10);
        written.append('0' + digits % 10);
        hasCheckDigits = true;
        return written.length;
    }

    public int byteOf(int i) {
        return written.at(i);
    }

    public boolean copy() {
        if (told.kind == 0 || !text.hasRoomFor(written.length)) {
            return false;
        }
        for (int i = 0; i < written.length; i++) {
            text.append(written.at(i));
        }
        return true;
    }

    // The hearing methods answer the place of the fault. They need no test for a text that is too
    // short: behind its end the row answers -1, which is no sign of any field.

    private int hearText() {
        int fault = hearKind();
        int place = KIND_SIGNS;
        for (int k = 0; k < MOST_FIELDS && fault == NO_FAULT && heard.dueSort() != 0; k++) {
            int end = place + entry(SIGNS, heard.dueSort());
            fault = hearField(place, end);
            place = end;
        }
        return fault == NO_FAULT ? hearCheckDigits(place) : fault;
    }

    private int hearKind() {
        for (int i = 0; i < KIND_SIGNS; i++) {
            if (kindWithSigns(i + 1) == 0) {
                return i;
            }
        }
        heard.start(kindWithSigns(KIND_SIGNS));
        return NO_FAULT;
    }

    private int kindWithSigns(int signs) {
        for (int kind = 1; kind <= KINDS; kind++) {
            if (textBeginsAs(kind, signs)) {
                return kind;
            }
        }
        return 0;
    }

    private boolean textBeginsAs(int kind, int signs) {
        for (int i = 0; i < signs; i++) {
            if (text.at(i) != letterOf(kind, i)) {
                return false;
            }
        }
        return true;
    }

    private int hearField(int start, int end) {
        int sort = heard.dueSort();
        int base = isToBase36(sort) ? 36 : 10;
        long number = 0;
        for (int place = start; place < end; place++) {
            int value = valueInSort(sort, text.at(place));
            if (value < 0 || value > 0 && heard.mustBeZero()) {
                return place;
            }
            number = number * base + value;
        }
        heard.take(number);
        return NO_FAULT;
    }

    private int hearCheckDigits(int start) {
        for (int place = start; place < start + 2; place++) {
            if (!isDigit(text.at(place))) {
                return place;
            }
        }
        // The check digits count only if nothing else is wrong, so a byte behind them comes first.
        if (text.length > start + 2) {
            return start + 2;
        }
        return text.remainder() == 1 ? NO_FAULT : start;
    }

    private void writeField(int sort, long number) {
        int start = written.length;
        int end = start + entry(SIGNS, sort);
        for (int place = start; place < end; place++) {
            written.append('0');
        }
        boolean wide = isToBase36(sort);
        long rest = number;
        for (int place = end - 1; place >= start; place--) {
            int value = (int) (wide ? rest % 36 : rest % 10);
            written.put(place, signInSort(sort, value));
            rest = wide ? rest / 36 : rest / 10;
        }
    }

    private static boolean isToBase36(int sort) {
        return sort >= 1 && sort <= REFERENCE;
    }

    /** The value of a sign, or -1 if a field of the sort cannot have it. */
    private static int valueInSort(int sort, int sign) {
        int value = sort == CLASS ? valueOfClass(sign) : valueOfSign(sign);
        boolean fits = value >= entry(LEAST_VALUE, sort) && value <= entry(MOST_VALUE, sort);
        return fits ? value : -1;
    }

    private static int signInSort(int sort, int value) {
        if (sort == CLASS) {
            return value == 0 ? 'C' : 'S';
        }
        return value < 10 ? '0' + value : 'A' + value - 10;
    }

    private static int valueOfClass(int sign) {
        if (sign == 'C') {
            return 0;
        }
        return sign == 'S' ? 1 : -1;
    }

    private static int valueOfSign(int sign) {
        if (isDigit(sign)) {
            return sign - '0';
        }
        return sign >= 'A' && sign <= 'Z' ? sign - 'A' + 10 : -1;
    }

    private static boolean isDigit(int sign) {
        return sign >= '0' && sign <= '9';
    }

    private static int letterOf(int kind, int i) {
        int place = (kind - 1) * KIND_SIGNS + i;
        return place >= 0 && place < KIND_LETTERS.length() ? KIND_LETTERS.charAt(place) : 0;
    }

    private static int entry(int[] row, int i) {
        return i >= 0 && i < row.length ? row[i] : 0;
    }

    /** Bytes behind one another, as many as there is room for. */
    private static final class Row {
        private final int[] bytes;
        private int length = 0;

        Row(int room) {
            bytes = new int[room < 0 ? 0 : room];
        }

        boolean hasRoomFor(int more) {
            return more <= bytes.length - length;
        }

        void clear() {
            length = 0;
        }

        void append(int value) {
            if (length >= 0 && length < bytes.length) {
                bytes[length] = value;
                length++;
            }
        }

        void put(int i, int value) {
            if (i >= 0 && i < length && i < bytes.length) {
                bytes[i] = value;
            }
        }

        int at(int i) {
            return i >= 0 && i < length && i < bytes.length ? bytes[i] : -1;
        }

        /** What the number that the signs are leaves when it is divided by 97. */
        int remainder() {
            int rest = 0;
            for (int i = 0; i < length; i++) {
                int value = valueOfSign(at(i));
                rest = (rest * (value < 10 ? 10 : 100) + value) % 97;
            }
            return rest;
        }
    }

    /** A kind and its fields, as many as are known so far. */
    private static final class Message {
        private final int[] sorts = new int[MOST_FIELDS];
        private final long[] numbers = new long[MOST_FIELDS];
        private int kind = 0;
        private int count = 0;

        void start(int newKind) {
            kind = newKind;
            count = 0;
        }

        int sortAt(int k) {
            return k >= 0 && k < count && k < sorts.length ? sorts[k] : 0;
        }

        long numberAt(int k) {
            return k >= 0 && k < count && k < numbers.length ? numbers[k] : -1L;
        }

        /** The sort of the next field, or 0 if there is no field more. */
        int dueSort() {
            if (kind < 1 || kind > KINDS || count < 0) {
                return 0;
            }
            if (kind == PAY && count >= FIRST_LEG_FIELD) {
                return dueLegSort(count - FIRST_LEG_FIELD);
            }
            return count < KIND_FIELDS ? entry(KIND_SORTS, (kind - 1) * KIND_FIELDS + count) : 0;
        }

        private int dueLegSort(int k) {
            long legs = numberAt(RULING_FIELD);
            return k < legs * LEG_FIELDS ? entry(LEG_SORTS, k % LEG_FIELDS) : 0;
        }

        /** Whether the next field stands behind class C in AST. */
        boolean mustBeZero() {
            return kind == AST && numberAt(RULING_FIELD) == 0;
        }

        boolean suits(long number) {
            int sort = dueSort();
            if (sort < 1 || sort >= MOST_NUMBER.length || mustBeZero() && number != 0) {
                return false;
            }
            return number >= entry(LEAST_VALUE, sort) && number <= MOST_NUMBER[sort];
        }

        void take(long number) {
            if (count >= 0 && count < sorts.length && count < numbers.length) {
                sorts[count] = dueSort();
                numbers[count] = number;
                count++;
            }
        }
    }
}
