import java.math.BigInteger;
import java.util.ArrayList;
import java.util.List;
import java.util.regex.Matcher;
import java.util.regex.Pattern;

/**
 * The document said a second time, with the Java library: the grammar as one pattern, numbers as
 * BigInteger. It shares no way of working with FieldDesk, so that a slip in one shows.
 */
final class Model {
    private static final String[] KINDS = {
        "NEW", "AST", "PRC", "ISS", "RED", "PAY", "CNF", "CAN", "PRI", "LIM", "UNL", "PLG", "UNP", "RES", "STM"
    };
    private static final String[] SORTS = {
        "131", "132546", "13246", "13214", "13214", "1378", "1313", "133", "1337", "1314", "131",
        "1324", "1324", "13", "13"
    };
    private static final String[] PATTERNS = {
        "", "[0-9A-Z]{4}", "[0-9A-Z]{3}", "[0-9A-Z]{8}", "[0-9]{15}", "[CS]", "[0-9]{2}", "[1-9]", "[1-4]"
    };
    private static final Pattern MESSAGE = messagePattern();

    final StringBuilder text = new StringBuilder();
    String heardSorts = "";
    final List<Long> heardNumbers = new ArrayList<>();
    int kind = 0;
    final List<Long> toldNumbers = new ArrayList<>();
    String written = "";
    boolean ended = false;

    private static Pattern messagePattern() {
        StringBuilder all = new StringBuilder();
        for (int kind = 1; kind <= 15; kind++) {
            all.append(kind == 1 ? "(?:" : "|").append(KINDS[kind - 1]).append("(?:");
            if (kind == 2) {
                all.append(fieldPattern("132")).append("(?:C0{17}|S[0-9]{17})");
            } else if (kind == 6) {
                String leg = "(?:" + fieldPattern("1124") + ")";
                all.append(fieldPattern("137"))
                    .append("(?:1" + leg + "{1}|2" + leg + "{2}|3" + leg + "{3}|4" + leg + "{4})");
            } else {
                all.append(fieldPattern(SORTS[kind - 1]));
            }
            all.append(")");
        }
        return Pattern.compile(all.append(")[0-9]{2}").toString(), Pattern.DOTALL);
    }

    private static String fieldPattern(String sorts) {
        StringBuilder s = new StringBuilder();
        for (char sort : sorts.toCharArray()) {
            s.append(PATTERNS[sort - '0']);
        }
        return s.toString();
    }

    /** The sorts of a kind; legs is how many PAY has. */
    static String sortsOf(int kind, long legs) {
        return SORTS[kind - 1] + (kind == 6 ? "1124".repeat((int) legs) : "");
    }

    static int signsOf(int sort) {
        return new int[] {0, 4, 3, 8, 15, 1, 2, 1, 1}[sort];
    }

    static BigInteger remainder(String message) {
        StringBuilder digits = new StringBuilder();
        for (char c : message.toCharArray()) {
            digits.append(Character.digit(c, 36));
        }
        return new BigInteger(digits.toString()).mod(BigInteger.valueOf(97));
    }

    /** The place of the fault, or -1 if the text is a message. */
    static int fault(String text) {
        for (int length = 1; length <= text.length(); length++) {
            Matcher m = MESSAGE.matcher(text.substring(0, length));
            if (!m.matches() && !m.hitEnd()) {
                return length - 1;
            }
        }
        if (!MESSAGE.matcher(text).matches()) {
            return text.length();
        }
        return remainder(text).equals(BigInteger.ONE) ? -1 : text.length() - 2;
    }

    boolean type(long v, int n) {
        if (n < 1 || n > 8 || text.length() + n > 400) {
            return false;
        }
        byte[] bytes = BigInteger.valueOf(v).and(BigInteger.ONE.shiftLeft(8 * n).subtract(BigInteger.ONE)).toByteArray();
        for (int i = n; i >= 1; i--) {
            text.append((char) (i <= bytes.length ? bytes[bytes.length - i] & 255 : 0));
        }
        return true;
    }

    int read() {
        String message = text.toString();
        text.setLength(0);
        heardSorts = "";
        heardNumbers.clear();
        int fault = fault(message);
        if (fault >= 0) {
            return -1 - fault;
        }
        int readKind = List.of(KINDS).indexOf(message.substring(0, 3)) + 1;
        heardSorts = sortsOf(readKind, readKind == 6 ? message.charAt(16) - '0' : 0);
        int place = 3;
        for (char sort : heardSorts.toCharArray()) {
            int end = place + signsOf(sort - '0');
            String signs = message.substring(place, end);
            place = end;
            heardNumbers.add(sort == '5' ? "CS".indexOf(signs) : Long.parseLong(signs, sort <= '3' ? 36 : 10));
        }
        return readKind;
    }

    int sort(int k) {
        return k < 0 || k >= heardSorts.length() ? 0 : heardSorts.charAt(k) - '0';
    }

    long number(int k) {
        return k < 0 || k >= heardNumbers.size() ? -1 : heardNumbers.get(k);
    }

    boolean begin(int newKind) {
        if (newKind < 1 || newKind > 15) {
            return false;
        }
        kind = newKind;
        toldNumbers.clear();
        written = KINDS[kind - 1];
        ended = false;
        return true;
    }

    /** The sort of the next field to be written, or 0. */
    int nextSort() {
        if (kind == 0) {
            return 0;
        }
        String sorts = sortsOf(kind, toldNumbers.size() > 3 ? toldNumbers.get(3) : 0);
        return toldNumbers.size() < sorts.length() ? sorts.charAt(toldNumbers.size()) - '0' : 0;
    }

    boolean add(long number) {
        int sort = nextSort();
        if (sort == 0 || number < 0) {
            return false;
        }
        String signs = Long.toString(number, sort <= 3 ? 36 : 10).toUpperCase();
        if (sort == 5) {
            signs = number == 0 ? "C" : number == 1 ? "S" : "?";
        }
        signs = "0".repeat(Math.max(0, signsOf(sort) - signs.length())) + signs;
        boolean isZeroAlone = kind == 2 && toldNumbers.size() > 3 && toldNumbers.get(3) == 0;
        if (!signs.matches(PATTERNS[sort]) || isZeroAlone && number != 0) {
            return false;
        }
        toldNumbers.add(number);
        written += signs;
        return true;
    }

    int end() {
        if (kind == 0 || ended || nextSort() != 0) {
            return -1;
        }
        written = withCheckDigits(written);
        ended = true;
        return written.length();
    }

    /** A message without its check digits, and then they. */
    static String withCheckDigits(String body) {
        for (int digits = 2; digits <= 98; digits++) {
            String whole = body + digits / 10 + digits % 10;
            if (remainder(whole).equals(BigInteger.ONE)) {
                return whole;
            }
        }
        throw new IllegalStateException("no check digits fit");
    }

    int byteOf(int i) {
        return i < 0 || i >= written.length() ? -1 : written.charAt(i);
    }

    boolean copy() {
        if (kind == 0 || text.length() + written.length() > 400) {
            return false;
        }
        text.append(written);
        return true;
    }
}
