/** Promises 1 to 4: a new object, put, patch, drop. */
public final class BytesTest {
    private static final Check check = new Check();

    public static void main(String[] args) {
        newObject();
        put();
        putOrder();
        putLimit();
        patch();
        drop();
        check.end();
    }

    private static void newObject() {
        check.due("new: drop()", new ClassFileReader().drop(), 0);
        check.due("new: place()", new ClassFileReader().place(), -1);
        check.due("new: patch(0, 0)", new ClassFileReader().patch(0, 0), ClassFileReader.REFUSED);
        ClassFileReader x = new ClassFileReader();
        for (int i = -1; i <= 20; i++) {
            check.due("new: number(" + i + ")", x.number(i), ClassFileReader.REFUSED);
            check.due("new: flags(" + i + ", 0)", x.flags(i, 0), ClassFileReader.REFUSED);
            check.due("new: text(" + i + ", 0, 0)", x.text(i, 0, 0), -1);
            check.due("new: deprecated(" + i + ", 0)", x.deprecated(i, 0), ClassFileReader.REFUSED);
            check.due("new: exceptions(" + i + ")", x.exceptions(i), ClassFileReader.REFUSED);
            check.due("new: exception(" + i + ", 0, 0)", x.exception(i, 0, 0), -1);
            check.due("new: constant(" + i + ")", x.constant(i), ClassFileReader.NONE);
        }
        check.due("new: place() after questions", x.place(), -1);
        check.dueRead("new", x, ClassFileReader.SHORT, 0);
    }

    private static void put() {
        ClassFileReader x = new ClassFileReader();
        int[] refused = {0, -1, 9, Integer.MAX_VALUE, Integer.MIN_VALUE};
        for (int n : refused) {
            check.due("put(1, " + n + ")", x.put(1, n), ClassFileReader.REFUSED);
        }
        check.due("nothing was added", x.drop(), 0);
        int size = 0;
        for (int n = 1; n <= 8; n++) {
            size += n;
            check.due("put(-1, " + n + ")", x.put(-1, n), size);
        }
        check.due("all was added", x.drop(), 36);
    }

    private static void putOrder() {
        for (int n = 1; n <= 8; n++) {
            ClassFileReader x = new ClassFileReader();
            x.put(77, 1);
            x.put(0xF1E2D3C4B5A69788L, n);
            int[] all = {0xF1, 0xE2, 0xD3, 0xC4, 0xB5, 0xA6, 0x97, 0x88};
            check.due("the byte before", x.patch(0, 0), 77);
            for (int i = 0; i < n; i++) {
                check.due("byte " + i + " of " + n, x.patch(1 + i, 0), all[8 - n + i]);
            }
            check.due("behind byte " + n, x.patch(1 + n, 0), ClassFileReader.REFUSED);
        }
    }

    private static void putLimit() {
        ClassFileReader x = new ClassFileReader();
        for (int i = 1; i <= 59; i++) {
            x.put(i, 8);
        }
        check.due("put(0, 7) at 472", x.put(0, 7), 479);
        check.due("put(0, 2) at 479", x.put(0, 2), ClassFileReader.REFUSED);
        check.due("put(0, 8) at 479", x.put(0, 8), ClassFileReader.REFUSED);
        check.due("patch(479, 1) at 479", x.patch(479, 1), ClassFileReader.REFUSED);
        check.due("put(200, 1) at 479", x.put(200, 1), 480);
        check.due("put(0, 1) at 480", x.put(0, 1), ClassFileReader.REFUSED);
        check.due("patch(479, 1)", x.patch(479, 1), 200);
        check.due("patch(471, 1)", x.patch(471, 1), 59);
        check.due("drop() at 480", x.drop(), 480);
        check.due("put(0, 8) after drop", x.put(0, 8), 8);
    }

    private static void patch() {
        ClassFileReader x = new ClassFileReader();
        x.put(0x80FF, 2);
        check.due("patch(0, 255)", x.patch(0, 255), 128);
        check.due("patch(0, 0)", x.patch(0, 0), 255);
        check.due("patch(1, 1)", x.patch(1, 1), 255);
        check.due("patch(1, 256)", x.patch(1, 256), ClassFileReader.REFUSED);
        check.due("patch(1, -1)", x.patch(1, -1), ClassFileReader.REFUSED);
        check.due("patch(2, 0)", x.patch(2, 0), ClassFileReader.REFUSED);
        check.due("patch(-1, 0)", x.patch(-1, 0), ClassFileReader.REFUSED);
        check.due("patch(MAX, 0)", x.patch(Integer.MAX_VALUE, 0), ClassFileReader.REFUSED);
        check.due("patch(MIN, 0)", x.patch(Integer.MIN_VALUE, 0), ClassFileReader.REFUSED);
        check.due("patch(1, 2) sees 1", x.patch(1, 2), 1);
        check.due("patch(0, 2) sees 0", x.patch(0, 2), 0);
        check.due("patch adds nothing", x.drop(), 2);
        check.due("patch(0, 0) after drop", x.patch(0, 0), ClassFileReader.REFUSED);
    }

    private static void drop() {
        FileBytes file = FileBytes.start();
        int self = file.classOf("p/A");
        file.endPool().header(33, self, 0);
        ClassFileReader x = file.endEmpty().reader();
        check.dueRead("sound", x, 0, -1);
        check.due("drop()", x.drop(), file.size());
        check.due("drop() again", x.drop(), 0);
        check.due("place() after drop", x.place(), -1);
        check.due("number(0) after drop", x.number(0), 61);
        check.dueText(x, 0, 0, "p/A");
        check.dueRead("dropped", x, ClassFileReader.SHORT, 0);
        check.dueText(x, 0, 0, "p/A");
        FileBytes.putAll(x, file.toBytes());
        check.dueRead("put again", x, 0, -1);
    }
}
