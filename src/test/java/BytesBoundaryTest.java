/** The boundary cases of THE BYTES and of promises 1 to 4: for each sentence that names one, a test of its own. */
public final class BytesBoundaryTest {
    private static final Check check = new Check();
    private static final int REFUSED = ClassFileReader.REFUSED;
    private static final int MOST = 480;
    private static final int MIN = Integer.MIN_VALUE;
    private static final int MAX = Integer.MAX_VALUE;

    public static void main(String[] args) {
        mostCalls();
        noBytesAtFirst();
        placesFromZero();
        mostBytes();
        newObject();
        putSizes();
        putLowestBytes();
        putAnswers();
        putAnotherN();
        putMoreThanMost();
        patchEdges();
        patchNoPlace();
        patchAnotherValue();
        dropAll();
        dropNotTheMirror();
        check.end();
    }

    /** An object with so many bytes; the byte at a place is the place's lowest byte. */
    private static ClassFileReader with(int size) {
        byte[] bytes = new byte[size];
        for (int i = 0; i < size; i++) {
            bytes[i] = (byte) i;
        }
        return FileBytes.readerOf(bytes);
    }

    /** The bytes must be as with() made them; not all of many are asked for, to stay within 512 calls. */
    private static void dueUntouched(ClassFileReader x, int size) {
        for (int i = 0; i < size; i += i >= 100 && i < size - 100 ? 7 : 1) {
            check.due("byte " + i, x.patch(i, i & 255), i & 255);
        }
        check.due("a byte behind them", x.patch(size, 0), REFUSED);
        check.due("drop()", x.drop(), size);
    }

    private static void mostCalls() {
        check.sentence("An object is used for at most 512 calls after it has been made");
        byte[] bytes = FileBytes.filledTo(MOST).toBytes();
        ClassFileReader x = new ClassFileReader();
        FileBytes.putAll(x, bytes);
        for (int call = 61; call <= 508; call++) {
            check.due("call " + call + ": read()", x.read(), 0);
        }
        check.due("call 509: patch()", x.patch(0, 0), 0xCA);
        check.due("call 510: read()", x.read(), ClassFileReader.MAGIC);
        check.due("call 511: place()", x.place(), 0);
        check.due("call 512: text()", x.text(0, 0, 0), 'A');
    }

    private static void noBytesAtFirst() {
        check.sentence("THE BYTES: 0 to 480, ...; none at first: none");
        check.due("drop()", new ClassFileReader().drop(), 0);
        check.due("patch(0, 0)", new ClassFileReader().patch(0, 0), REFUSED);
        check.dueRead("no bytes", new ClassFileReader(), ClassFileReader.SHORT, 0);
    }

    private static void placesFromZero() {
        check.sentence("THE BYTES: ... at places from 0");
        ClassFileReader x = with(2);
        check.due("patch(-1, 9)", x.patch(-1, 9), REFUSED);
        check.due("patch(0, 9)", x.patch(0, 9), 0);
        check.due("patch(1, 9)", x.patch(1, 9), 1);
        check.due("patch(2, 9)", x.patch(2, 9), REFUSED);
    }

    private static void mostBytes() {
        check.sentence("THE BYTES: 0 to 480: full");
        dueUntouched(with(MOST), MOST);
        check.dueSound("a file of 479 bytes", FileBytes.filledTo(MOST - 1));
        check.dueSound("a file of 480 bytes", FileBytes.filledTo(MOST));
        ClassFileReader x = FileBytes.filledTo(MOST).reader();
        check.due("put(0, 1)", x.put(0, 1), REFUSED);
        check.dueRead("a full file after a refused put", x, 0, -1);
    }

    private static void newObject() {
        check.sentence("No bytes, no mirror.");
        ClassFileReader x = new ClassFileReader();
        check.due("number(0)", x.number(0), REFUSED);
        check.due("flags(0, 0)", x.flags(0, 0), REFUSED);
        check.due("text(0, 0, 0)", x.text(0, 0, 0), -1);
        check.due("exceptions(0)", x.exceptions(0), REFUSED);
        check.due("exception(0, 0, 0)", x.exception(0, 0, 0), -1);
        check.due("constant(0)", x.constant(0), ClassFileReader.NONE);
        check.due("deprecated(0, 0)", x.deprecated(0, 0), REFUSED);
        check.due("place()", x.place(), -1);
        check.due("put(7, 1)", x.put(7, 1), 1);
        check.due("another new object has none", new ClassFileReader().drop(), 0);
    }

    private static void putSizes() {
        check.sentence("Adds n bytes (1 .. 8) behind the others");
        for (int n = 1; n <= 8; n++) {
            ClassFileReader x = with(3);
            check.due("put(0, " + n + ")", x.put(0, n), 3 + n);
            check.due("the byte before", x.patch(2, 0), 2);
            check.due("the last byte", x.patch(2 + n, 0), 0);
            check.due("behind it", x.patch(3 + n, 0), REFUSED);
        }
    }

    private static void putLowestBytes() {
        check.sentence("the n lowest bytes of value, the most significant of them first");
        long[] values = {0, -1, 1, 255, 256, 65535, 65536, 1L << 31, 1L << 32, 1L << 56, Long.MAX_VALUE,
            Long.MIN_VALUE, 0x0102030405060708L, 0xF8F7F6F5F4F3F2F1L};
        for (long value : values) {
            for (int n = 1; n <= 8; n++) {
                ClassFileReader x = new ClassFileReader();
                x.put(value, n);
                long rest = value;
                for (int i = n - 1; i >= 0; i--) {
                    check.due("byte " + i + " of " + value, x.patch(i, 0), Math.floorMod(rest, 256L));
                    rest = Math.floorDiv(rest, 256L);
                }
            }
        }
    }

    private static void putAnswers() {
        check.sentence("answers how many bytes there are then");
        ClassFileReader x = new ClassFileReader();
        for (int size = 8; size <= MOST; size += 8) {
            check.due("put(0, 8)", x.put(0, 8), size);
        }
        check.due("drop()", x.drop(), MOST);
        check.due("put(0, 3) after drop", x.put(0, 3), 3);
    }

    private static void putAnotherN() {
        check.sentence("Another n ...: REFUSED, and none is added.");
        int[] others = {0, 9, -1, -8, 10, 256, 257, MAX, MIN, MIN + 1};
        for (int n : others) {
            ClassFileReader x = with(5);
            check.due("put(-1, " + n + ")", x.put(-1, n), REFUSED);
            dueUntouched(x, 5);
        }
        ClassFileReader full = with(MOST);
        for (int n : others) {
            check.due("full: put(-1, " + n + ")", full.put(-1, n), REFUSED);
        }
        dueUntouched(full, MOST);
    }

    private static void putMoreThanMost() {
        check.sentence("or there would be more than 480: REFUSED, and none is added.");
        for (int n = 1; n <= 8; n++) {
            ClassFileReader fits = with(MOST - n);
            check.due("put(-1, " + n + ") to the last byte", fits.put(-1, n), MOST);
            ClassFileReader over = with(MOST - n + 1);
            check.due("put(-1, " + n + ") one too many", over.put(-1, n), REFUSED);
            dueUntouched(over, MOST - n + 1);
            ClassFileReader full = with(MOST);
            check.due("put(-1, " + n + ") when full", full.put(-1, n), REFUSED);
            dueUntouched(full, MOST);
        }
        ClassFileReader x = with(MOST - 1);
        check.due("put(0, 2)", x.put(0, 2), REFUSED);
        check.due("put(223, 1) after a refused one", x.put(223, 1), MOST);
        dueUntouched(x, MOST);
    }

    private static void patchEdges() {
        check.sentence("Changes the byte at a place to value (0 .. 255); answers what it was.");
        ClassFileReader x = with(MOST);
        int[] places = {0, 1, 127, 128, 255, 256, MOST - 1};
        int[] values = {255, 0, 128, 127, 1};
        for (int place : places) {
            int before = place & 255;
            for (int value : values) {
                check.due("patch(" + place + ", " + value + ")", x.patch(place, value), before);
                before = value;
            }
            x.patch(place, place & 255);
        }
        dueUntouched(x, MOST);
    }

    private static void patchNoPlace() {
        check.sentence("No such place ...: REFUSED.");
        int[] sizes = {0, 1, 7, MOST - 1, MOST};
        for (int size : sizes) {
            ClassFileReader x = with(size);
            int[] none = {-1, size, size + 1, MOST, MOST + 1, MAX, MIN};
            for (int place : none) {
                check.due("patch(" + place + ", 9) of " + size, x.patch(place, 9), REFUSED);
            }
            dueUntouched(x, size);
        }
        ClassFileReader dropped = with(9);
        dropped.drop();
        dropped.put(1, 1);
        check.due("a place that was dropped", dropped.patch(1, 0), REFUSED);
    }

    private static void patchAnotherValue() {
        check.sentence("or another value: REFUSED.");
        ClassFileReader x = with(300);
        int[] others = {-1, 256, -128, -255, -256, 511, 512, MAX, MIN};
        for (int value : others) {
            check.due("patch(0, " + value + ")", x.patch(0, value), REFUSED);
            check.due("patch(299, " + value + ")", x.patch(299, value), REFUSED);
            check.due("patch(300, " + value + ")", x.patch(300, value), REFUSED);
        }
        dueUntouched(x, 300);
    }

    private static void dropAll() {
        check.sentence("Takes all bytes away ...; answers how many there were.");
        int[] sizes = {0, 1, 8, MOST - 1, MOST};
        for (int size : sizes) {
            ClassFileReader x = with(size);
            check.due("drop()", x.drop(), size);
            check.due("drop() again", x.drop(), 0);
            check.due("patch(0, 0)", x.patch(0, 0), REFUSED);
            check.dueRead("no bytes", x, ClassFileReader.SHORT, 0);
            check.due("put(0, 8)", x.put(0, 8), 8);
        }
    }

    private static void dropNotTheMirror() {
        check.sentence("(not the mirror)");
        ClassFileReader x = FileBytes.filledTo(41).reader();
        check.dueRead("the file", x, 0, -1);
        check.due("drop()", x.drop(), 41);
        check.due("number(2)", x.number(2), 4);
        check.dueText(x, 0, 0, "A");
        for (int i = 0; i < MOST; i += 8) {
            x.put(0, 8);
        }
        check.due("number(2) under other bytes", x.number(2), 4);
        check.dueText(x, 0, 0, "A");
    }
}
