/** A message of each kind, by the kind's number, with what stands in it. */
final class Samples {
    static final String RES = "RES00010000000241";
    static final String AST_C = "AST100000000011001C0000000000000000007";
    static final String AST_S = "AST000100000002003S1234567890123451775";
    static final String PAY = "PAY000100000002910005000600700000000000000828";
    static final String PAY_4_LEGS = "PAY000100000002340001000200300000000000000400050006007000000000000008"
        + "0009000A00B000000000000012000D000E00F00000000000001668";

    static final String[] NAMES = {
        "", "NEW", "AST", "PRC", "ISS", "RED", "PAY", "CNF", "CAN", "PRI", "LIM", "UNL", "PLG", "UNP", "RES", "STM"
    };
    static final String[] MESSAGES = {
        "", "NEW000100000002000396", AST_S, "PRC0001000000020030000000000000040561",
        "ISS000100000002003000400000000000000573", "RED000100000002003000400000000000000589", PAY_4_LEGS,
        "CNF00010000000200030000000464", "CAN0001000000020000000348", "PRI00010000000200000003946",
        "LIM000100000002000300000000000000456", "UNL000100000002000349",
        "PLG00010000000200300000000000000407", "UNP00010000000200300000000000000433", RES, "STM00010000000219"
    };
    /** As sort:number for each field. */
    static final String[] FIELDS = {
        "", "1:1 3:2 1:3", "1:1 3:2 2:3 5:1 4:123456789012345 6:17", "1:1 3:2 2:3 4:4 6:5",
        "1:1 3:2 2:3 1:4 4:5", "1:1 3:2 2:3 1:4 4:5",
        "1:1 3:2 7:3 8:4 1:1 1:2 2:3 4:4 1:5 1:6 2:7 4:8 1:9 1:10 2:11 4:12 1:13 1:14 2:15 4:16",
        "1:1 3:2 1:3 3:4", "1:1 3:2 3:3", "1:1 3:2 3:3 7:9", "1:1 3:2 1:3 4:4", "1:1 3:2 1:3",
        "1:1 3:2 2:3 4:4", "1:1 3:2 2:3 4:4", "1:1 3:2", "1:1 3:2"
    };
    /** What each place can be: # a sign, 9 a digit, 0 nought alone, K a letter of the kind, c, p and m the sorts 5, 7 and 8. */
    static final String[] SHAPES = {
        "", "KKK" + "#".repeat(16) + "99", "KKK" + "#".repeat(15) + "c" + "9".repeat(19),
        "KKK" + "#".repeat(15) + "9".repeat(19), "KKK" + "#".repeat(19) + "9".repeat(17),
        "KKK" + "#".repeat(19) + "9".repeat(17),
        "KKK" + "#".repeat(12) + "pm" + ("#".repeat(11) + "9".repeat(15)).repeat(4) + "99",
        "KKK" + "#".repeat(24) + "99", "KKK" + "#".repeat(20) + "99", "KKK" + "#".repeat(20) + "p99",
        "KKK" + "#".repeat(16) + "9".repeat(17), "KKK" + "#".repeat(16) + "99",
        "KKK" + "#".repeat(15) + "9".repeat(17), "KKK" + "#".repeat(15) + "9".repeat(17),
        "KKK" + "#".repeat(12) + "99", "KKK" + "#".repeat(12) + "99"
    };
    static final String SHAPE_OF_AST_C = "KKK" + "#".repeat(15) + "c" + "0".repeat(17) + "99";

    private Samples() {
    }

    /** The numbers of a kind's sample message. */
    static long[] numbers(int kind) {
        String[] fields = FIELDS[kind].split(" ");
        long[] numbers = new long[fields.length];
        for (int k = 0; k < fields.length; k++) {
            numbers[k] = Long.parseLong(fields[k].substring(2));
        }
        return numbers;
    }

    /** Whether some kind's name begins so. */
    static boolean someKindBegins(String letters) {
        for (int kind = 1; kind <= 15; kind++) {
            if (NAMES[kind].startsWith(letters)) {
                return true;
            }
        }
        return false;
    }
}
