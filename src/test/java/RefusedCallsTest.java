import java.util.ArrayList;
import java.util.LinkedHashMap;
import java.util.List;
import java.util.Map;
import java.util.Set;
import java.util.function.Consumer;
import java.util.function.Function;
import java.util.function.Predicate;

/**
 * 'A call that is refused changes nothing.' Two desks are brought to the same state; on one a call is
 * refused; from then on both answer alike, whatever is asked.
 */
public final class RefusedCallsTest {
    private static final Due due = new Due();
    /** Each tells whether the call was refused. */
    private static final Map<String, Predicate<FieldDesk>> CALLS = new LinkedHashMap<>();
    private static final List<Function<FieldDesk, String>> SIGHTS = List.of(
        RefusedCallsTest::room, RefusedCallsTest::textAndHeard, RefusedCallsTest::writing, RefusedCallsTest::copied);

    public static void main(String[] args) {
        nameCalls();
        due.sentence("A call that is refused changes nothing");
        inEachState();
        due.finish();
    }

    private static void nameCalls() {
        for (int n : new int[] {0, -1, 9, Integer.MIN_VALUE, Integer.MAX_VALUE}) {
            CALLS.put("type(v," + n + ")", x -> !x.type(0x3141414141414141L, n));
        }
        CALLS.put("type(v,1)", x -> !x.type('1', 1));
        CALLS.put("type(v,8)", x -> !x.type(0x3131313131313131L, 8));
        for (int kind : new int[] {0, -1, 16, Integer.MIN_VALUE, Integer.MAX_VALUE}) {
            CALLS.put("begin(" + kind + ")", x -> !x.begin(kind));
        }
        for (long number : new long[] {-1, 0, 1, 2821109907456L, Long.MIN_VALUE, Long.MAX_VALUE}) {
            CALLS.put("add(" + number + ")", x -> !x.add(number));
        }
        CALLS.put("end()", x -> x.end() == -1);
        CALLS.put("copy()", x -> !x.copy());
    }

    private static void inEachState() {
        String always = "type(v,0) type(v,-1) type(v,9) type(v,-2147483648) type(v,2147483647) "
            + "begin(0) begin(-1) begin(16) begin(-2147483648) begin(2147483647) "
            + "add(-1) add(2821109907456) add(-9223372036854775808) add(9223372036854775807) ";
        refused("new", x -> { }, always + "add(0) add(1) end() copy()");
        refused("a text", x -> Desk.type(x, "RES0001000000024"), always + "add(0) add(1) end() copy()");
        refused("a message read", RefusedCallsTest::hearPay, always + "add(0) add(1) end() copy()");
        refused("a kind begun", x -> begin(x, 14), always + "end()");
        refused("a reference due", x -> begin(x, 14, 1), always + "end()");
        refused("amount due in class C", x -> begin(x, 2, 1, 2, 3, 0), always + "add(1) end()");
        refused("haircut due in class C", x -> begin(x, 2, 1, 2, 3, 0, 0), always + "add(1) end()");
        refused("how many legs due", x -> begin(x, 6, 1, 2, 3), always + "add(0) end()");
        refused("a leg due", x -> begin(x, 6, 1, 2, 3, 2, 1, 2, 3, 4), always + "end()");
        refused("all fields", x -> begin(x, 14, 1, 2), always + "add(0) add(1)");
        refused("check digits", x -> begin(x, 14, 1, 2).end(), always + "add(0) add(1) end()");
        refused("check digits, text and message read", RefusedCallsTest::haveAll, always + "add(0) add(1) end()");
        refused("a full text", x -> haveAllAndText(x, 400), always + "type(v,1) type(v,8) add(0) add(1) end() copy()");
        refused("room for 7", x -> haveAllAndText(x, 393), always + "type(v,8) add(0) add(1) end() copy()");
        refused("room for 16", x -> haveAllAndText(x, 384), always + "add(0) add(1) end() copy()");
    }

    /** In that state those calls, told by their names, are refused and change nothing. */
    private static void refused(String state, Consumer<FieldDesk> bring, String names) {
        Set<String> named = Set.of(names.split(" "));
        due.is("calls with these names", CALLS.keySet().containsAll(named), true);
        List<String> refused = new ArrayList<>();
        for (Map.Entry<String, Predicate<FieldDesk>> call : CALLS.entrySet()) {
            FieldDesk probe = new FieldDesk();
            bring.accept(probe);
            boolean wanted = named.contains(call.getKey());
            due.is(state + ", refused " + call.getKey(), call.getValue().test(probe), wanted);
            if (wanted) {
                refused.add(call.getKey());
                for (int sight = 0; sight < SIGHTS.size(); sight++) {
                    changesNothing(state, bring, call, sight);
                }
            }
        }
        allOfThemInARow(state, bring, refused);
    }

    private static void changesNothing(String state, Consumer<FieldDesk> bring, Map.Entry<String, Predicate<FieldDesk>> call, int sight) {
        FieldDesk with = new FieldDesk();
        FieldDesk without = new FieldDesk();
        bring.accept(with);
        bring.accept(without);
        call.getValue().test(with);
        Function<FieldDesk, String> see = SIGHTS.get(sight);
        due.is(state + " after " + call.getKey() + ", sight " + sight, see.apply(with), see.apply(without));
    }

    private static void allOfThemInARow(String state, Consumer<FieldDesk> bring, List<String> refused) {
        for (Function<FieldDesk, String> see : SIGHTS) {
            FieldDesk with = new FieldDesk();
            FieldDesk without = new FieldDesk();
            bring.accept(with);
            bring.accept(without);
            for (String name : refused) {
                due.is(state + ", " + name + " among others", CALLS.get(name).test(with), true);
            }
            due.is(state + " after all that are refused", see.apply(with), see.apply(without));
        }
    }

    private static String room(FieldDesk x) {
        int room = 0;
        while (room <= 400 && x.type('0', 1)) {
            room++;
        }
        return room + " and read() " + x.read();
    }

    private static String textAndHeard(FieldDesk x) {
        String before = Desk.heard(x);
        x.type('1', 1);
        return before + " / " + x.read() + " / " + Desk.heard(x);
    }

    /** What is written, which numbers come next, and what it is with all fields. */
    private static String writing(FieldDesk x) {
        StringBuilder s = new StringBuilder(Desk.written(x));
        for (int k = 0; k < 20; k++) {
            s.append(' ').append(x.add(99)).append(x.add(1)).append(x.add(0));
        }
        return s.append(' ').append(x.end()).append(Desk.written(x)).append(x.end()).toString();
    }

    private static String copied(FieldDesk x) {
        boolean hasRoom = x.copy();
        return hasRoom + " " + x.read() + " " + Desk.heard(x) + x.copy() + x.read() + Desk.heard(x);
    }

    private static FieldDesk begin(FieldDesk x, int kind, long... numbers) {
        x.begin(kind);
        for (long number : numbers) {
            due.is("add(" + number + ")", x.add(number), true);
        }
        return x;
    }

    private static void hearPay(FieldDesk x) {
        Desk.type(x, Samples.PAY_4_LEGS);
        due.is("read()", x.read(), 6);
    }

    private static void haveAll(FieldDesk x) {
        haveAllAndText(x, 16);
    }

    /** PAY is read, RES is written, and the text begins with RES. */
    private static void haveAllAndText(FieldDesk x, int length) {
        hearPay(x);
        begin(x, 14, 1, 2).end();
        String text = Samples.RES.substring(0, 16) + "1".repeat(384);
        due.is("type", Desk.type(x, text.substring(0, length)), true);
    }
}
