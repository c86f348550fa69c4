/** Each promise of the document by itself: ordinary inputs, the edges it names, and wrong inputs. */
public final class PromisesTest {
    private static final Due due = new Due();
    private static final String RES = Samples.RES;
    private static final String AST_C = Samples.AST_C;
    private static final String AST_S = Samples.AST_S;
    private static final String PAY = Samples.PAY;
    private static final String[] MESSAGES = Samples.MESSAGES;
    private static final String[] FIELDS = Samples.FIELDS;

    public static void main(String[] args) {
        newObject();
        type();
        typeHasRoomFor400();
        readKinds();
        readFaultyKinds();
        readFaultySigns();
        readFaultyLengths();
        readFaultyCheckDigits();
        readFaultyClassC();
        readEmptiesTheText();
        fieldsSortsAndNumbers();
        noFields();
        begin();
        addEdges();
        addRefused();
        addPayLegs();
        addClassC();
        end();
        endRefused();
        endCheckDigits();
        byteOf();
        copy();
        copyHasRoomFor400();
        due.finish();
    }

    private static void newObject() {
        FieldDesk x = new FieldDesk();
        due.is("1 fields()", x.fields(), 0);
        due.is("1 sort(0)", x.sort(0), 0);
        due.is("1 number(0)", x.number(0), -1);
        due.is("1 byteOf(0)", x.byteOf(0), -1);
        due.is("1 end()", x.end(), -1);
        due.is("1 add(0)", x.add(0), false);
        due.is("1 copy()", x.copy(), false);
        due.is("1 read()", x.read(), -1);
    }

    private static void type() {
        FieldDesk x = new FieldDesk();
        due.is("2 the highest byte first", x.type(0x3131524553303030L, 8) && x.read() == -1, true);
        due.is("2 eight bytes", x.type(0x5245533030303130L, 8), true);
        due.is("2 seven bytes, what is above them left out", x.type(0x4130303030303030L, 7), true);
        due.is("2 one byte", x.type(-1L << 8 | '4', 1), true);
        due.is("2 n 0", x.type('1', 0), false);
        due.is("2 n -1", x.type('1', -1), false);
        due.is("2 n 9", x.type('1', 9), false);
        due.is("2 n lowest", x.type('1', Integer.MIN_VALUE), false);
        due.is("2 n highest", x.type('1', Integer.MAX_VALUE), false);
        due.is("2 bytes are there in their order", x.read(), -17);
        Desk.type(x, "RES0001000000024");
        x.type('1', 1);
        due.is("2 behind the text", x.read(), 14);
        x.type(-1L, 8);
        due.is("2 bytes above 127 are no signs", x.read(), -1);
    }

    private static void typeHasRoomFor400() {
        FieldDesk x = new FieldDesk();
        for (int i = 0; i < 49; i++) {
            due.is("2 up to 392", x.type(0x4E4E4E4E4E4E4E4EL, 8), true);
        }
        due.is("2 399", x.type(0L, 7), true);
        due.is("2 401 refused", x.type(0L, 2), false);
        due.is("2 400", x.type(0L, 1), true);
        due.is("2 another 401 refused", x.type(0L, 1), false);
        due.is("2 a full text", x.read(), -2);
        due.is("2 room again", x.type(0L, 8), true);
    }

    private static void readKinds() {
        for (int kind = 1; kind <= 15; kind++) {
            due.is("3 " + MESSAGES[kind], Desk.read(MESSAGES[kind]), kind);
        }
        due.is("3 AST of class C", Desk.read(AST_C), 2);
        due.is("3 PAY with a leg", Desk.read(PAY), 6);
        due.is("3 the highest signs", Desk.read("NEWZZZZZZZZZZZZZZZZ39"), 1);
        due.is("3 the highest digits", Desk.read("AST000100000002003S9999999999999999926"), 2);
        due.is("3 class S of nothing", Desk.read("AST000100000002003S0000000000000000040"), 2);
        due.is("3 check digits 02", Desk.read("RES00010000001502"), 14);
        due.is("3 check digits 99 for 02 fit too", Desk.read("RES00010000001599"), 14);
        due.is("3 check digits 97", Desk.read("RES00010000004897"), 14);
        due.is("3 check digits 00 for 97 fit too", Desk.read("RES00010000004800"), 14);
        due.is("3 check digits 98", Desk.read("RES00010000000O98"), 14);
        due.is("3 check digits 01 for 98 fit too", Desk.read("RES00010000000O01"), 14);
    }

    private static void readFaultyKinds() {
        due.is("3 no kind begins so", Desk.read("QES"), -1);
        due.is("3 no kind begins so, digit", Desk.read("0ES"), -1);
        due.is("3 small letters", Desk.read("res"), -1);
        due.is("3 second letter", Desk.read("RA"), -2);
        due.is("3 third letter", Desk.read("REW000100000002"), -3);
        due.is("3 third letter of another kind", Desk.read("PRS"), -3);
        due.is("3 a letter of a kind in the middle of the names", Desk.read("EWA"), -1);
        due.is("3 one letter alone", Desk.read("U"), -2);
        due.is("3 two letters alone", Desk.read("UN"), -3);
        due.is("3 three letters alone", Desk.read("UNP"), -4);
        due.is("3 byte 0 in a kind", Desk.read("R\0S"), -2);
    }

    private static void readFaultySigns() {
        for (String bad : new String[] {"/", ":", "@", "[", "a", "z", "\0", "\u00C1", "\u00FF", " "}) {
            due.is("3 " + bad + " in a participant", Desk.read("RES000" + bad + "0000000241"), -7);
            due.is("3 " + bad + " in a reference", Desk.read("RES0001" + bad + "000000241"), -8);
            due.is("3 " + bad + " in an asset", Desk.read("PLG00010000000200" + bad), -18);
            due.is("3 " + bad + " in an amount", Desk.read("PLG000100000002003" + bad), -19);
            due.is("3 " + bad + " for the last check digit", Desk.read("RES0001000000024" + bad), -17);
        }
        due.is("3 a letter in an amount", Desk.read("PLG00010000000200300000000000000A07"), -33);
        due.is("3 a letter in a haircut", Desk.read("PRC0001000000020030000000000000040A61"), -35);
        due.is("3 a letter for the first check digit", Desk.read("RES000100000002A1"), -16);
        due.is("3 a letter for the second check digit", Desk.read("RES0001000000024A"), -17);
        due.is("3 no class", Desk.read("AST000100000002003D12"), -19);
        due.is("3 a class's number", Desk.read("AST0001000000020030"), -19);
        due.is("3 priority 0", Desk.read("PRI000100000002000000030"), -24);
        due.is("3 priority A", Desk.read("PRI00010000000200000003A"), -24);
        due.is("3 priority 1", Desk.read("PRI000100000002000000031"), -25);
        due.is("3 no legs", Desk.read("PAY00010000000290"), -17);
        due.is("3 five legs", Desk.read("PAY00010000000295"), -17);
        due.is("3 four legs", Desk.read("PAY00010000000294"), -18);
        due.is("3 the first fault counts", Desk.read("PAY0001000000b20x"), -14);
    }

    private static void readFaultyLengths() {
        due.is("3 empty", Desk.read(""), -1);
        for (String message : MESSAGES) {
            for (int length = 0; length < message.length(); length++) {
                due.is("3 " + message + " cut at " + length, Desk.read(message.substring(0, length)), -1 - length);
            }
            if (!message.isEmpty()) {
                due.is("3 a sign behind " + message, Desk.read(message + "0"), -1 - message.length());
                due.is("3 itself behind " + message, Desk.read(message + message), -1 - message.length());
            }
        }
        due.is("3 a leg more than it says", Desk.read(PAY.substring(0, 43) + PAY.substring(17, 43) + "28"), -46);
    }

    private static void readFaultyCheckDigits() {
        int fits = 0;
        for (int digits = 0; digits < 100; digits++) {
            int got = Desk.read("RES000100000002" + digits / 10 + digits % 10);
            due.is("3 check digits " + digits, got, digits == 41 ? 14 : -16);
            fits += got == 14 ? 1 : 0;
        }
        due.is("3 one pair fits", fits, 1);
        due.is("3 two signs changed round", Desk.read("RES00010000002041"), -16);
        due.is("3 a byte behind is at fault before check digits", Desk.read("RES00010000000242x"), -18);
        due.is("3 a message too short is so before its check digits", Desk.read("RES0001000000029"), -17);
        due.is("3 no digit is at fault before check digits", Desk.read("RES0001000000029x"), -17);
    }

    private static void readFaultyClassC() {
        String head = "AST100000000011001C";
        for (int place = 0; place < 17; place++) {
            String text = head + "0".repeat(place) + "1" + "9".repeat(16 - place) + "07";
            due.is("3 class C, a digit above 0 at " + place, Desk.read(text), -1 - (19 + place));
        }
        due.is("3 class C, a letter in the amount", Desk.read(head + "0A"), -21);
        due.is("3 class C, check digits above 0", Desk.read(head + "0".repeat(17) + "99"), -37);
    }

    private static void readEmptiesTheText() {
        FieldDesk x = new FieldDesk();
        Desk.type(x, RES);
        due.is("3 a message", x.read(), 14);
        due.is("3 its text is gone", x.read(), -1);
        Desk.type(x, "RES?");
        due.is("3 a fault", x.read(), -4);
        due.is("3 its text is gone as well", x.read(), -1);
        x = Desk.with(15, 1, 2);
        x.read();
        due.is("3 what is written stays", Desk.written(x), "STM00010000000219");
    }

    private static void fieldsSortsAndNumbers() {
        int[] counts = {0, 3, 6, 5, 5, 5, 20, 4, 3, 4, 4, 3, 4, 4, 2, 2};
        for (int kind = 1; kind <= 15; kind++) {
            FieldDesk x = new FieldDesk();
            Desk.type(x, MESSAGES[kind]);
            x.read();
            due.is("4 " + MESSAGES[kind], x.fields(), counts[kind]);
            due.is("5, 6 " + MESSAGES[kind], Desk.heard(x), FIELDS[kind]);
            due.is("5 sort behind the last", x.sort(counts[kind]), 0);
            due.is("6 number behind the last", x.number(counts[kind]), -1);
        }
        FieldDesk x = new FieldDesk();
        Desk.type(x, AST_C);
        x.read();
        due.is("5, 6 AST of class C", Desk.heard(x), "1:46656 3:37 2:1 5:0 4:0 6:0");
        Desk.type(x, "NEWZZZZZZZZZZZZZZZZ39");
        x.read();
        due.is("6 the highest to the base 36", Desk.heard(x), "1:1679615 3:2821109907455 1:1679615");
        Desk.type(x, "LIM000100000002000399999999999999933");
        x.read();
        due.is("6 the highest amount", Desk.heard(x), "1:1 3:2 1:3 4:999999999999999");
    }

    private static void noFields() {
        FieldDesk x = new FieldDesk();
        Desk.type(x, RES);
        due.is("4 a text alone is not read", x.fields(), 0);
        x.read();
        due.is("5 sort(-1)", x.sort(-1), 0);
        due.is("5 sort, lowest", x.sort(Integer.MIN_VALUE), 0);
        due.is("5 sort, highest", x.sort(Integer.MAX_VALUE), 0);
        due.is("6 number(-1)", x.number(-1), -1);
        due.is("6 number, lowest", x.number(Integer.MIN_VALUE), -1);
        due.is("6 number, highest", x.number(Integer.MAX_VALUE), -1);
        Desk.type(x, PAY);
        x.begin(1);
        x.add(5);
        due.is("4 typing and writing leave what was read", Desk.heard(x), "1:1 3:2");
        x.read();
        due.is("4 a new message in its place", x.fields(), 8);
        Desk.type(x, RES.substring(0, 16));
        x.read();
        due.is("4 nothing is read behind a fault", x.fields(), 0);
        due.is("5 nothing is read behind a fault", x.sort(0), 0);
        due.is("6 nothing is read behind a fault", x.number(0), -1);
    }

    private static void begin() {
        FieldDesk x = new FieldDesk();
        for (int kind = 1; kind <= 15; kind++) {
            due.is("7 begin(" + kind + ")", x.begin(kind), true);
            due.is("7 begin(" + kind + ")", Desk.written(x), Samples.NAMES[kind]);
        }
        x.add(1);
        for (int kind : new int[] {0, 16, -1, Integer.MIN_VALUE, Integer.MAX_VALUE}) {
            due.is("7 begin(" + kind + ")", x.begin(kind), false);
        }
        due.is("7 refused, it goes on", x.add(2), true);
        due.is("7 refused, it ends", x.end(), 17);
        due.is("7 again", x.begin(8), true);
        due.is("7 what was written is gone", Desk.written(x), "CAN");
        due.is("7 its check digits too", x.add(1) && x.add(2) && x.add(3) && x.end() == 25, true);
    }

    private static void addEdges() {
        addAsk("1 lowest", 1, "0000", 0, true);
        addAsk("1 highest", 1, "ZZZZ", 1679615, true);
        addAsk("1 above", 1, "", 1679616, false);
        addAsk("3 highest", 1, "ZZZZZZZZ", 2821109907455L, true, 0);
        addAsk("3 above", 1, "", 2821109907456L, false, 0);
        addAsk("2 highest", 12, "ZZZ", 46655, true, 0, 0);
        addAsk("2 above", 12, "", 46656, false, 0, 0);
        addAsk("4 lowest", 12, "000000000000000", 0, true, 0, 0, 0);
        addAsk("4 highest", 12, "999999999999999", 999999999999999L, true, 0, 0, 0);
        addAsk("4 above", 12, "", 1000000000000000L, false, 0, 0, 0);
        addAsk("5 C", 2, "C", 0, true, 0, 0, 0);
        addAsk("5 S", 2, "S", 1, true, 0, 0, 0);
        addAsk("5 above", 2, "", 2, false, 0, 0, 0);
        addAsk("6 lowest", 3, "00", 0, true, 0, 0, 0, 0);
        addAsk("6 highest", 3, "99", 99, true, 0, 0, 0, 0);
        addAsk("6 above", 3, "", 100, false, 0, 0, 0, 0);
        addAsk("7 below", 9, "", 0, false, 0, 0, 0);
        addAsk("7 lowest", 9, "1", 1, true, 0, 0, 0);
        addAsk("7 highest", 9, "9", 9, true, 0, 0, 0);
        addAsk("7 above", 9, "", 10, false, 0, 0, 0);
        addAsk("8 below", 6, "", 0, false, 0, 0, 1);
        addAsk("8 lowest", 6, "1", 1, true, 0, 0, 1);
        addAsk("8 highest", 6, "4", 4, true, 0, 0, 1);
        addAsk("8 above", 6, "", 5, false, 0, 0, 1);
        addAsk("4 digits in order", 12, "012345678901234", 12345678901234L, true, 0, 0, 0);
        addAsk("1 signs in order", 1, "19AZ", ((1 * 36 + 9) * 36 + 10) * 36 + 35, true);
    }

    /** Adds a number behind others, which takes the signs that are due, or is refused and changes nothing. */
    private static void addAsk(String name, int kind, String signs, long number, boolean want, long... before) {
        FieldDesk x = Desk.with(kind, before);
        String written = Desk.written(x);
        due.is("8 sort " + name, x.add(number), want);
        due.is("8 sort " + name, Desk.written(x).startsWith(written + signs), true);
        due.is("8 sort " + name, Desk.written(x).length(), written.length() + signs.length());
        for (long none : new long[] {-1, Long.MIN_VALUE, Long.MAX_VALUE, 1L << 62, Integer.MIN_VALUE}) {
            x = Desk.with(kind, before);
            due.is("8 sort " + name + " add(" + none + ")", x.add(none), false);
        }
        x = Desk.with(kind, before);
        due.is("8 sort " + name + ", not cut to an int", x.add((1L << 50) + 1), false);
    }

    private static void addRefused() {
        FieldDesk x = new FieldDesk();
        due.is("8 none is written", x.add(1), false);
        x.begin(14);
        due.is("8 first field", x.add(1), true);
        due.is("8 no reference", x.add(-1), false);
        due.is("8 the field is still due", x.add(2), true);
        due.is("8 no field more", x.add(0), false);
        due.is("8 what is written stays", Desk.written(x), "RES000100000002");
        x.end();
        due.is("8 no field behind the check digits", x.add(0), false);
        due.is("8 what is written stays", Desk.written(x), RES);
    }

    private static void addPayLegs() {
        for (int legs = 1; legs <= 4; legs++) {
            FieldDesk x = new FieldDesk();
            x.begin(6);
            due.is("8 PAY", x.add(1) && x.add(2) && x.add(3) && x.add(legs), true);
            for (int leg = 0; leg < legs; leg++) {
                due.is("9 not all legs", x.end(), -1);
                due.is("8 leg", x.add(1679616), false);
                due.is("8 leg", x.add(1679615), true);
                due.is("8 leg", x.add(1679615), true);
                due.is("8 leg", x.add(46656), false);
                due.is("8 leg", x.add(46655), true);
                due.is("9 not the whole leg", x.end(), -1);
                due.is("8 leg", x.add(999999999999999L), true);
            }
            due.is("8 no leg more", x.add(1), false);
            due.is("9 PAY", x.end(), 19 + 26 * legs);
            due.is("11 PAY", x.copy(), true);
            due.is("3 PAY", x.read(), 6);
            due.is("4 PAY", x.fields(), 4 + 4 * legs);
        }
    }

    private static void addClassC() {
        FieldDesk x = new FieldDesk();
        x.begin(2);
        due.is("8 AST, numbers above 0 before the class", x.add(46656) && x.add(37) && x.add(1), true);
        due.is("8 class C", x.add(0), true);
        due.is("8 class C, amount 1", x.add(1), false);
        due.is("8 class C, amount 0", x.add(0), true);
        due.is("8 class C, haircut 99", x.add(99), false);
        due.is("8 class C, haircut -1", x.add(-1), false);
        due.is("8 class C, haircut 0", x.add(0), true);
        due.is("8 class C, no field more", x.add(0), false);
        due.is("9 class C", x.end(), 38);
        due.is("10 class C", Desk.written(x), AST_C);
        due.is("8 class S", Desk.written(Desk.with(2, 1, 2, 3, 1, 123456789012345L, 17)), AST_S);
        due.is("8 class S of nothing", Desk.written(Desk.with(2, 1, 2, 3, 1, 0, 0)), "AST000100000002003S0000000000000000040");
        due.is("8 CNF, 0 in field 3 rules nothing", Desk.written(Desk.with(7, 1, 2, 3, 0)).length(), 29);
        due.is("8 PRC, amount 0 and haircut", Desk.written(Desk.with(3, 1, 2, 3, 0, 5)).length(), 37);
    }

    private static void end() {
        for (int kind = 1; kind <= 15; kind++) {
            FieldDesk x = new FieldDesk();
            x.begin(kind);
            for (String field : FIELDS[kind].split(" ")) {
                due.is("9 not all fields yet", x.end(), -1);
                x.add(Long.parseLong(field.substring(2)));
            }
            due.is("9 kind " + kind, x.end(), MESSAGES[kind].length());
            due.is("9 kind " + kind, Desk.written(x), MESSAGES[kind]);
            due.is("9 it has them already", x.end(), -1);
            due.is("9 refused, it stays", Desk.written(x), MESSAGES[kind]);
        }
    }

    private static void endRefused() {
        FieldDesk x = new FieldDesk();
        due.is("9 no message is written", x.end(), -1);
        Desk.type(x, RES);
        x.read();
        due.is("9 what was read is not written", x.end(), -1);
        x.begin(14);
        x.add(1);
        due.is("9 not all", x.end(), -1);
        due.is("9 refused, it goes on", x.add(2), true);
        due.is("9 all", x.end(), 17);
    }

    private static void endCheckDigits() {
        due.is("9 02, not 99", Desk.written(Desk.with(14, 1, 41)), "RES00010000001502");
        due.is("9 97, not 00", Desk.written(Desk.with(14, 1, 152)), "RES00010000004897");
        due.is("9 98, not 01", Desk.written(Desk.with(14, 1, 24)), "RES00010000000O98");
        due.is("9 a digit below 10", Desk.written(Desk.with(14, 1, 151)), "RES00010000004703");
    }

    private static void byteOf() {
        FieldDesk x = new FieldDesk();
        due.is("10 nothing is written", x.byteOf(0), -1);
        x.begin(15);
        due.is("10 the kind", x.byteOf(2), 'M');
        due.is("10 as far as it is", x.byteOf(3), -1);
        x.add(1679615);
        due.is("10 a field", x.byteOf(3), 'Z');
        due.is("10 the field's end", x.byteOf(6), 'Z');
        due.is("10 as far as it is", x.byteOf(7), -1);
        x.add(1);
        due.is("10 before the check digits", x.byteOf(15), -1);
        x.end();
        due.is("10 the last", x.byteOf(16) >= '0', true);
        due.is("10 behind the last", x.byteOf(17), -1);
        due.is("10 before the first", x.byteOf(-1), -1);
        due.is("10 lowest", x.byteOf(Integer.MIN_VALUE), -1);
        due.is("10 highest", x.byteOf(Integer.MAX_VALUE), -1);
        x.begin(15);
        due.is("10 gone with begin", x.byteOf(3), -1);
        Desk.type(x, RES);
        due.is("10 the text is not written", x.byteOf(0), 'S');
    }

    private static void copy() {
        FieldDesk x = new FieldDesk();
        due.is("11 nothing is written", x.copy(), false);
        x.begin(14);
        due.is("11 a kind alone", x.copy(), true);
        due.is("11 a kind alone", x.read(), -4);
        x.add(1);
        due.is("11 as far as it is", x.copy(), true);
        due.is("11 as far as it is", x.read(), -8);
        x.add(2);
        due.is("11 copied", x.copy(), true);
        due.is("11 behind the text", x.type('4', 1) && x.type('1', 1) && x.read() == 14, true);
        Desk.type(x, "RE");
        x.begin(15);
        due.is("11 behind what was typed", x.copy(), true);
        due.is("11 behind what was typed, RESTM", x.read(), -6);
        x = Desk.with(14, 1, 2);
        due.is("11 whole", x.copy(), true);
        due.is("11 what is written stays", Desk.written(x), RES);
        due.is("11 read", x.read(), 14);
        due.is("11 and again", x.copy() && x.read() == 14, true);
    }

    private static void copyHasRoomFor400() {
        FieldDesk x = Desk.with(14, 1, 2);
        for (int i = 0; i < 23; i++) {
            due.is("11 up to 391", x.copy(), true);
        }
        due.is("11 408 refused", x.copy(), false);
        due.is("11 refused, the text stays", x.type(0, 8), true);
        due.is("11 399 and 2 refused", x.type(0, 2), false);
        due.is("11 399 and 3 refused", x.begin(14) && !x.copy(), true);
        due.is("11 its first message", x.read(), -18);
        for (int i = 0; i < 133; i++) {
            due.is("11 up to 399", x.copy(), true);
        }
        due.is("11 402 refused", x.copy(), false);
        due.is("11 400", x.type(0, 1), true);
        x.read();
        x.type(0, 1);
        for (int i = 0; i < 133; i++) {
            due.is("11 up to 400", x.copy(), true);
        }
        due.is("11 not one more", x.type(0, 1), false);
    }
}
