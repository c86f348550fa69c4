/** Short ways to use a FieldDesk with texts in the tests. */
final class Desk {
    private Desk() {
    }

    /** Types a text in few calls, since an object has but 512 of them. */
    static boolean type(FieldDesk x, String text) {
        boolean all = true;
        for (int at = 0; at < text.length(); at += 8) {
            String piece = text.substring(at, Math.min(at + 8, text.length()));
            all &= x.type(asLong(piece), piece.length());
        }
        return all;
    }

    /** The bytes of a text of up to eight, the first of them the highest. */
    static long asLong(String bytes) {
        long v = 0;
        for (char b : bytes.toCharArray()) {
            v = v * 256 + b;
        }
        return v;
    }

    static int read(String text) {
        FieldDesk x = new FieldDesk();
        type(x, text);
        return x.read();
    }

    /** What is written, byte by byte, as far as it is. */
    static String written(FieldDesk x) {
        StringBuilder s = new StringBuilder();
        int b = x.byteOf(0);
        while (b >= 0 && s.length() < 500) {
            s.append((char) b);
            b = x.byteOf(s.length());
        }
        return s.toString();
    }

    /** What was read, as sort:number for each field. */
    static String heard(FieldDesk x) {
        StringBuilder s = new StringBuilder();
        for (int k = 0; k < x.fields(); k++) {
            s.append(k == 0 ? "" : " ").append(x.sort(k)).append(':').append(x.number(k));
        }
        return s.toString();
    }

    /** A new desk on which a message stands written, with its check digits. */
    static FieldDesk with(int kind, long... numbers) {
        FieldDesk x = new FieldDesk();
        x.begin(kind);
        for (long number : numbers) {
            x.add(number);
        }
        x.end();
        return x;
    }
}
