/** Short ways to use a FieldDesk with texts in the tests. */
final class Desk {
    private Desk() {
    }

    /** Types a text byte by byte. */
    static boolean type(FieldDesk x, String text) {
        boolean all = true;
        for (int i = 0; i < text.length(); i++) {
            all &= x.type(text.charAt(i), 1);
        }
        return all;
    }

    static int read(String text) {
        FieldDesk x = new FieldDesk();
        type(x, text);
        return x.read();
    }

    /** What is written, byte by byte, as far as it is. */
    static String written(FieldDesk x) {
        StringBuilder s = new StringBuilder();
        for (int i = 0; x.byteOf(i) >= 0; i++) {
            s.append((char) x.byteOf(i));
        }
        return s.toString();
    }

    /** What was read, as sort:number for each field. */
    static String heard(FieldDesk x) {
        StringBuilder s = new StringBuilder();
        for (int k = 0; k < x.fields(); k++) {
            s.append(k == 0 ? "" : " ").append(x.sort(k)).append(':').append(x.number(k));
        }
        return s.toString();
    }

    /** A new desk on which a message stands written, with its check digits. */
    static FieldDesk with(int kind, long... numbers) {
        FieldDesk x = new FieldDesk();
        x.begin(kind);
        for (long number : numbers) {
            x.add(number);
        }
        x.end();
        return x;
    }
}
