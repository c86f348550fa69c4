import java.util.stream.LongStream;

/** 'Terms': how many signs each sort has, which numbers are its own, and class C of AST; both ways. */
public final class FieldsBoundariesTest {
    private static final Due due = new Due();

    /** A place in a message where a field of one sort stands: what comes before it and behind it. */
    private record Place(int sort, int kind, long[] before, long... behind) {
    }

    private static final Place PARTICIPANT = new Place(1, 14, numbers(), 2);
    private static final Place LAST_PARTICIPANT = new Place(1, 1, numbers(1, 2));
    private static final Place ASSET = new Place(2, 12, numbers(1, 2), 4);
    private static final Place REFERENCE = new Place(3, 14, numbers(1));
    private static final Place LAST_REFERENCE = new Place(3, 7, numbers(1, 2, 3));
    private static final Place AMOUNT = new Place(4, 10, numbers(1, 2, 3));
    private static final Place AMOUNT_OF_CLASS_S = new Place(4, 2, numbers(1, 2, 3, 1), 0);
    private static final Place CLASS = new Place(5, 2, numbers(1, 2, 3), 0, 0);
    private static final Place HAIRCUT = new Place(6, 3, numbers(1, 2, 3, 4));
    private static final Place HAIRCUT_OF_CLASS_S = new Place(6, 2, numbers(1, 2, 3, 1, 0));
    private static final Place PRIORITY = new Place(7, 9, numbers(1, 2, 3));
    private static final Place PRIORITY_OF_PAY = new Place(7, 6, numbers(1, 2), 1, 5, 6, 7, 8);

    public static void main(String[] args) {
        participant();
        asset();
        reference();
        amount();
        classes();
        haircut();
        priority();
        legs();
        classCWritten();
        classCRead();
        zeroRulesOnlyClassC();
        due.finish();
    }

    private static void participant() {
        due.sentence("1 a PARTICIPANT (4 signs: the number to the base 36 that they are)");
        for (Place place : new Place[] {PARTICIPANT, LAST_PARTICIPANT}) {
            holds(place, 0, "0000");
            holds(place, 1, "0001");
            holds(place, 35, "000Z");
            holds(place, 36, "0010");
            holds(place, 46655, "0ZZZ");
            holds(place, 46656, "1000");
            holds(place, 1679614, "ZZZY");
            holds(place, 1679615, "ZZZZ");
            isNoNumber(place, 1679616);
            isNoNumberOfAnySort(place);
        }
        isFaultyIn(PARTICIPANT, "", "/:@[`az\0\u0080\u00FF ");
        isFaultyIn(PARTICIPANT, "ZZZ", "/:@[`az\0\u0080\u00FF ");
    }

    private static void asset() {
        due.sentence("2 an ASSET (3, likewise)");
        holds(ASSET, 0, "000");
        holds(ASSET, 35, "00Z");
        holds(ASSET, 36, "010");
        holds(ASSET, 1295, "0ZZ");
        holds(ASSET, 1296, "100");
        holds(ASSET, 46655, "ZZZ");
        isNoNumber(ASSET, 46656);
        isNoNumberOfAnySort(ASSET);
        isFaultyIn(ASSET, "", "/:@[`az\0\u0080\u00FF ");
        isFaultyIn(ASSET, "ZZ", "/:@[`az\0\u0080\u00FF ");
    }

    private static void reference() {
        due.sentence("3 a REFERENCE (8, likewise)");
        for (Place place : new Place[] {REFERENCE, LAST_REFERENCE}) {
            holds(place, 0, "00000000");
            holds(place, 35, "0000000Z");
            holds(place, 36, "00000010");
            // 2^31 and 2^32 with their neighbours: a number is not cut to an int.
            holds(place, 2147483647L, "00ZIK0ZJ");
            holds(place, 2147483648L, "00ZIK0ZK");
            holds(place, 4294967295L, "01Z141Z3");
            holds(place, 4294967296L, "01Z141Z4");
            holds(place, 78364164096L, "10000000");
            holds(place, 2821109907455L, "ZZZZZZZZ");
            isNoNumber(place, 2821109907456L);
            isNoNumberOfAnySort(place);
        }
        isFaultyIn(REFERENCE, "", "/:@[`az\0\u0080\u00FF ");
        isFaultyIn(REFERENCE, "ZZZZZZZ", "/:@[`az\0\u0080\u00FF ");
    }

    private static void amount() {
        due.sentence("4 an AMOUNT (15 digits)");
        for (Place place : new Place[] {AMOUNT, AMOUNT_OF_CLASS_S}) {
            holds(place, 0, "000000000000000");
            holds(place, 9, "000000000000009");
            holds(place, 10, "000000000000010");
            holds(place, 2147483648L, "000002147483648");
            holds(place, 4294967296L, "000004294967296");
            holds(place, 100000000000000L, "100000000000000");
            holds(place, 999999999999999L, "999999999999999");
            isNoNumber(place, 1000000000000000L);
            isNoNumberOfAnySort(place);
            isFaultyIn(place, "", "/:@AZ[a\0\u00FF ");
            isFaultyIn(place, "99999999999999", "/:@AZ[a\0\u00FF ");
        }
    }

    private static void classes() {
        due.sentence("5 a CLASS (C: 0, or S: 1)");
        holds(CLASS, 0, "C");
        holds(CLASS, 1, "S");
        isNoNumber(CLASS, 2);
        isNoNumber(CLASS, 'C');
        isNoNumber(CLASS, 12);
        isNoNumber(CLASS, 28);
        isNoNumberOfAnySort(CLASS);
        isFaultyIn(CLASS, "", "01ABDRTZcs\0 ");
    }

    private static void haircut() {
        due.sentence("6 a HAIRCUT (2 digits)");
        for (Place place : new Place[] {HAIRCUT, HAIRCUT_OF_CLASS_S}) {
            holds(place, 0, "00");
            holds(place, 9, "09");
            holds(place, 10, "10");
            holds(place, 99, "99");
            isNoNumber(place, 100);
            isNoNumberOfAnySort(place);
            isFaultyIn(place, "", "/:AZ\0 ");
            isFaultyIn(place, "9", "/:AZ\0 ");
        }
    }

    private static void priority() {
        due.sentence("7 a PRIORITY (1 .. 9)");
        for (Place place : new Place[] {PRIORITY, PRIORITY_OF_PAY}) {
            for (int number = 1; number <= 9; number++) {
                holds(place, number, Integer.toString(number));
            }
            isNoNumber(place, 0);
            isNoNumber(place, 10);
            isNoNumberOfAnySort(place);
            isFaultyIn(place, "", "0/:AZ\0 ");
        }
    }

    private static void legs() {
        due.sentence("8 how MANY legs (1 .. 4)");
        for (int legs = 1; legs <= 4; legs++) {
            long[] behind = new long[4 * legs];
            for (int i = 0; i < behind.length; i++) {
                behind[i] = 10 + i;
            }
            Place place = new Place(8, 6, numbers(1, 2, 3), behind);
            holds(place, legs, Integer.toString(legs));
            isNoNumber(place, 0);
            isNoNumber(place, 5);
            isNoNumberOfAnySort(place);
            isFaultyIn(place, "", "056789/:AZ\0 ");
        }
    }

    private static void classCWritten() {
        due.sentence("In AST of class C amount and haircut are 0 (written)");
        Place amount = new Place(4, 2, numbers(1, 2, 3, 0), 0);
        Place haircut = new Place(6, 2, numbers(1, 2, 3, 0, 0));
        holds(amount, 0, "000000000000000");
        holds(haircut, 0, "00");
        for (long number : numbers(1, 9, 10, 99, 100, 999999999999999L, 1L << 32, -1, Long.MIN_VALUE)) {
            isNoNumber(amount, number);
            isNoNumber(haircut, number);
        }
    }

    private static void classCRead() {
        due.sentence("In AST of class C amount and haircut are 0 (read)");
        String body = "AST000100000002003C";
        FieldDesk x = new FieldDesk();
        Desk.type(x, Model.withCheckDigits(body + "0".repeat(17)));
        due.is("read()", x.read(), 2);
        due.is("fields", Desk.heard(x), "1:1 3:2 2:3 5:0 4:0 6:0");
        Desk.type(x, Model.withCheckDigits(body + "00000000000000100"));
        due.is("amount 1, read()", x.read(), -1 - 33);
        Desk.type(x, Model.withCheckDigits(body + "00000000000000001"));
        due.is("haircut 1, read()", x.read(), -1 - 35);
    }

    private static void zeroRulesOnlyClassC() {
        due.sentence("In AST of class C (and nowhere else)");
        holds(new Place(4, 2, numbers(0, 0, 0, 1), 99), 5, "000000000000005");
        holds(new Place(6, 3, numbers(0, 0, 0, 0)), 5, "05");
        holds(new Place(4, 10, numbers(0, 0, 0)), 5, "000000000000005");
        holds(new Place(4, 12, numbers(0, 0, 0)), 5, "000000000000005");
        holds(new Place(3, 7, numbers(0, 0, 0)), 5, "00000005");
        holds(new Place(5, 2, numbers(0, 0, 0), 7, 7), 1, "S");
    }

    /** The number can be written there as those signs, and read again from them. */
    private static void holds(Place place, long number, String signs) {
        String call = "kind " + place.kind + ", " + number + " as " + signs;
        FieldDesk x = begun(place);
        String head = Desk.written(x);
        due.is(call + ", add", x.add(number), true);
        due.is(call + ", written", Desk.written(x), head + signs);
        due.is(call + ", what comes behind", addAll(x, place.behind), true);
        due.is(call + ", no field more", x.add(1), false);
        String body = Desk.written(x);
        due.is(call + ", end", x.end(), body.length() + 2);
        due.is(call + ", whole", Desk.written(x), Model.withCheckDigits(body));
        FieldDesk y = new FieldDesk();
        Desk.type(y, Model.withCheckDigits(body));
        due.is(call + ", read", y.read(), place.kind);
        int k = place.before.length;
        due.is(call + ", fields", y.fields(), k + 1 + place.behind.length);
        due.is(call + ", sort", y.sort(k), place.sort);
        due.is(call + ", number", y.number(k), number);
    }

    /** The number cannot be added there, and leaves the place for one that can. */
    private static void isNoNumber(Place place, long number) {
        FieldDesk x = begun(place);
        String head = Desk.written(x);
        due.is("kind " + place.kind + ", add(" + number + ")", x.add(number), false);
        due.is("kind " + place.kind + ", written", Desk.written(x), head);
    }

    private static void isNoNumberOfAnySort(Place place) {
        for (long number : numbers(-1, -2, Integer.MIN_VALUE, Long.MIN_VALUE, Long.MIN_VALUE + 1, Long.MAX_VALUE,
                1L << 62, (1L << 56) + 1, (1L << 60) + 4)) {
            isNoNumber(place, number);
        }
    }

    /** Each of the signs is faulty behind the first ones of the field, whatever comes behind. */
    private static void isFaultyIn(Place place, String first, String signs) {
        String head = Desk.written(begun(place)) + first;
        for (char sign : signs.toCharArray()) {
            due.is("read() of " + head + sign, Desk.read(head + sign), -1 - head.length());
            due.is("read() of " + head + sign + "..", Desk.read(head + sign + "0".repeat(150)), -1 - head.length());
        }
    }

    private static FieldDesk begun(Place place) {
        FieldDesk x = new FieldDesk();
        due.is("begin(" + place.kind + ")", x.begin(place.kind), true);
        due.is("what comes before", addAll(x, place.before), true);
        return x;
    }

    private static boolean addAll(FieldDesk x, long[] numbers) {
        return LongStream.of(numbers).allMatch(x::add);
    }

    private static long[] numbers(long... numbers) {
        return numbers;
    }
}
