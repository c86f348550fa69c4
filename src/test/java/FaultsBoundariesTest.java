/** 'Terms': the sentences that say where a text that is no message is faulty. */
public final class FaultsBoundariesTest {
    private static final Due due = new Due();

    public static void main(String[] args) {
        firstByteThatCannotBeAsItIs();
        signsOfAMessage();
        kindAtFault();
        classCAtFault();
        byteBehind();
        tooShort();
        checkDigitsDoNotFit();
        checkDigitsComeLast();
        leavesOne();
        due.finish();
    }

    private static void firstByteThatCannotBeAsItIs() {
        due.sentence("FAULTY at the first byte, from the left, that cannot be as it is, whatever comes behind");
        for (int kind = 1; kind <= 15; kind++) {
            everyWrongByte(Samples.MESSAGES[kind], Samples.SHAPES[kind]);
        }
        everyWrongByte(Samples.AST_C, Samples.SHAPE_OF_AST_C);
        due.is("two faults", Desk.read("RES00?1000?000241"), -1 - 5);
        due.is("a fault and bytes behind", Desk.read("RES00010000?00241" + "0".repeat(50)), -1 - 11);
        due.is("a fault and too short", Desk.read("RES0?"), -1 - 4);
    }

    private static void everyWrongByte(String message, String shape) {
        due.is("a shape for each byte of " + message, shape.length(), message.length());
        for (int place = 0; place < message.length(); place++) {
            String head = message.substring(0, place);
            String rest = message.substring(place + 1);
            for (char b = 0; b < 256; b++) {
                if (!canBe(shape.charAt(place), head, b)) {
                    due.is(message + " with byte " + (int) b + " at " + place, Desk.read(head + b + rest), -1 - place);
                    due.is(head + " and byte " + (int) b, Desk.read(head + b), -1 - place);
                }
            }
        }
    }

    private static boolean canBe(char shape, String head, char b) {
        return switch (shape) {
            case 'K' -> Samples.someKindBegins(head + b);
            case '#' -> b >= '0' && b <= '9' || b >= 'A' && b <= 'Z';
            case '9' -> b >= '0' && b <= '9';
            case '0' -> b == '0';
            case 'c' -> b == 'C' || b == 'S';
            case 'p' -> b >= '1' && b <= '9';
            case 'm' -> b >= '1' && b <= '4';
            default -> throw new IllegalArgumentException("no shape " + shape);
        };
    }

    private static void signsOfAMessage() {
        due.sentence("each a SIGN: 0 .. 9 or A .. Z, with the VALUES 0 .. 9 and 10 .. 35");
        String signs = "0123456789ABCDEFGHIJKLMNOPQRSTUVWXYZ";
        for (int value = 0; value < 36; value++) {
            FieldDesk x = new FieldDesk();
            Desk.type(x, Model.withCheckDigits("RES0000000000" + signs.charAt(value) + "0"));
            due.is("read() with " + signs.charAt(value), x.read(), 14);
            due.is("number(1) with " + signs.charAt(value), x.number(1), 36 * value);
        }
        // By hand: R, E, S and Z are 27, 14, 28 and 35; 271428 00035 00000000 12 leaves 1.
        due.is("a letter counts as two digits", Desk.read("RES000Z0000000012"), 14);
    }

    private static void kindAtFault() {
        due.sentence("a kind is at fault where no kind begins so");
        for (char b = 0; b < 256; b++) {
            int place = Samples.someKindBegins("" + b) ? 1 : 0;
            due.is("read() of byte " + (int) b, Desk.read("" + b), -1 - place);
        }
        for (String name : Samples.NAMES) {
            for (int length = 1; length < name.length(); length++) {
                String head = name.substring(0, length);
                for (char b = 0; b < 256; b++) {
                    int place = Samples.someKindBegins(head + b) ? length + 1 : length;
                    due.is("read() of " + head + " and byte " + (int) b, Desk.read(head + b), -1 - place);
                }
            }
        }
        due.is("a first letter of none, then letters of one", Desk.read("QRES"), -1);
        due.is("the second letter of one, the third of another", Desk.read("PRW00010000000241"), -3);
        due.is("a second letter of another kind", Desk.read("NST00010000000241"), -2);
        due.is("a name from two kinds' letters in their order", Desk.read("WAS00010000000241"), -1);
    }

    private static void classCAtFault() {
        due.sentence("in AST of class C the first digit above 0");
        String head = "AST000100000002003C";
        for (int i = 0; i < 17; i++) {
            for (int digit = 1; digit <= 9; digit++) {
                String text = head + "0".repeat(i) + digit;
                due.is(text + " alone", Desk.read(text), -1 - (19 + i));
                due.is(text + " with 9 behind", Desk.read(text + "9".repeat(18 - i)), -1 - (19 + i));
                due.is(text + " with ? behind", Desk.read(text + "?".repeat(18 - i)), -1 - (19 + i));
                String whole = Model.withCheckDigits(text + "0".repeat(16 - i));
                due.is(text + " with check digits that fit", Desk.read(whole), -1 - (19 + i));
            }
        }
        due.is("check digits may be above 0", Desk.read(Model.withCheckDigits(head + "0".repeat(17))), 2);
    }

    private static void byteBehind() {
        due.sentence("a byte behind the message");
        for (int kind = 1; kind <= 15; kind++) {
            String message = Samples.MESSAGES[kind];
            int length = message.length();
            for (char b : "0A?\0\u00FF".toCharArray()) {
                due.is("byte " + (int) b + " behind " + message, Desk.read(message + b), -1 - length);
            }
            due.is("itself behind " + message, Desk.read(message + message), -1 - length);
            due.is("as much as there is room for behind " + message, Desk.read(message + "0".repeat(400 - length)), -1 - length);
        }
        due.is("a leg more than PAY says", Desk.read(Model.withCheckDigits("PAY00010000000291"
            + "00050006007000000000000008".repeat(2))), -1 - 45);
    }

    private static void tooShort() {
        due.sentence("if it is too short, at its length");
        due.is("no byte", new FieldDesk().read(), -1);
        for (int kind = 1; kind <= 15; kind++) {
            String message = Samples.MESSAGES[kind];
            for (int length = 0; length < message.length(); length++) {
                due.is(message + " cut at " + length, Desk.read(message.substring(0, length)), -1 - length);
            }
        }
        for (int length = 0; length < 38; length++) {
            due.is("AST of class C cut at " + length, Desk.read(Samples.AST_C.substring(0, length)), -1 - length);
        }
        due.is("a leg fewer than PAY says", Desk.read("PAY00010000000292" + "00050006007000000000000008"), -1 - 43);
        due.is("what an earlier text had there does not count", afterALongerText(), -1 - 16);
    }

    private static int afterALongerText() {
        FieldDesk x = new FieldDesk();
        Desk.type(x, Samples.RES);
        x.read();
        Desk.type(x, Samples.RES.substring(0, 16));
        return x.read();
    }

    private static void checkDigitsDoNotFit() {
        due.sentence("if nothing else is wrong, but the check digits do not fit, at the first of them");
        for (int kind = 1; kind <= 15; kind++) {
            String message = Samples.MESSAGES[kind];
            String body = message.substring(0, message.length() - 2);
            for (int digits = 0; digits < 100; digits++) {
                String text = body + digits / 10 + digits % 10;
                boolean fits = Model.remainder(text).intValue() == 1;
                due.is("read() of " + text, Desk.read(text), fits ? kind : -1 - body.length());
            }
        }
        due.is("two signs changed round", Desk.read("RES00010000002041"), -1 - 15);
        due.is("O for 0", Desk.read("RESO0010000000241"), -1 - 15);
    }

    private static void checkDigitsComeLast() {
        due.sentence("if nothing else is wrong");
        due.is("a byte behind", Desk.read("RES000100000002420"), -1 - 17);
        due.is("too short by the second check digit", Desk.read("RES0001000000029"), -1 - 16);
        due.is("the second is no digit", Desk.read("RES0001000000029A"), -1 - 16);
        due.is("the first is no digit", Desk.read("RES000100000002A1"), -1 - 15);
        due.is("a sign of a field before them", Desk.read("RES0001000?000242"), -1 - 10);
    }

    private static void leavesOne() {
        due.sentence("the whole message is a number, which leaves 1 when it is divided by 97");
        // Both fit wherever two do: 00 and 97, 01 and 98, 02 and 99.
        due.is("97", Desk.read("RES00010000004897"), 14);
        due.is("00", Desk.read("RES00010000004800"), 14);
        due.is("98", Desk.read("RES00010000000O98"), 14);
        due.is("01", Desk.read("RES00010000000O01"), 14);
        due.is("02", Desk.read("RES00010000001502"), 14);
        due.is("99", Desk.read("RES00010000001599"), 14);
    }
}
