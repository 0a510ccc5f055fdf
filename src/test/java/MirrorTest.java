/** Promises 5 to 13: what a mirror answers, and when it changes. */
public final class MirrorTest {
    private static final Check check = new Check();

    public static void main(String[] args) {
        members();
        tables();
        bareFile();
        behindTheLists();
        constants();
        strings();
        mirrorStays();
        places();
        mirrorIsOfTheLast();
        everyPrefixIsShort();
        check.end();
    }

    /** Three fields, three methods. */
    private static FileBytes memberFile() {
        FileBytes file = FileBytes.start();
        int self = file.classOf("p/A");
        int parent = file.classOf("B");
        int array = file.classOf("[J");
        int f = file.text("f");
        int g = file.text("go");
        int type = file.text("I");
        int object = file.text("Lp/A;");
        int method = file.text("(I)V");
        int init = file.text("<init>");
        int signature = file.text("Signature");
        int deprecated = file.text("Deprecated");
        int exceptions = file.text("Exceptions");
        int value = file.text("ConstantValue");
        int number = file.word(FileBytes.INT, -7);
        file.endPool().header(33, self, parent, parent, self);
        file.u2(3);
        file.member(26, f, type, 2);
        file.attribute(value, number);
        file.attribute(signature, object);
        file.member(65535 - 6 - 64, f, object, 1);
        file.attribute(deprecated);
        file.member(0, g, type, 0);
        file.u2(3);
        file.member(4, init, method, 1);
        file.attribute(exceptions, 3, self, array, self);
        file.member(1, f, method, 3);
        file.attribute(deprecated);
        file.attribute(exceptions, 0);
        file.attribute(signature, init);
        file.member(1025, g, method, 1);
        file.attribute(value, 0);
        file.u2(0);
        return file;
    }

    private static ClassFileReader readerOf(FileBytes file) {
        ClassFileReader x = file.reader();
        check.dueRead("sound", x, 0, -1);
        return x;
    }

    private static void dueNumbers(ClassFileReader x, int... wanted) {
        for (int what = 0; what < wanted.length; what++) {
            check.due("number(" + what + ")", x.number(what), wanted[what]);
        }
        int[] wrong = {-1, 12, 13, Integer.MAX_VALUE, Integer.MIN_VALUE};
        for (int what : wrong) {
            check.due("number(" + what + ")", x.number(what), ClassFileReader.REFUSED);
        }
    }

    private static void members() {
        ClassFileReader x = readerOf(memberFile());
        dueNumbers(x, 61, 33, 18, 2, 3, 3, 0, 0, 0, 0, 0, 0);
        dueFlags(x, 0, 26, 65465, 0);
        dueFlags(x, 1, 4, 1, 1025);
        dueFlags(x, 2);
        dueFlags(x, 3);
        dueFlags(x, -1);
        dueTexts(x, 0, "p/A");
        dueTexts(x, 1, "B");
        dueRow(x, 2, "B", "p/A");
        dueRow(x, 3, "f", "f", "go");
        dueRow(x, 4, "I", "Lp/A;", "I");
        dueRow(x, 5, "<init>", "f", "go");
        dueRow(x, 6, "(I)V", "(I)V", "(I)V");
        dueRow(x, 7, "Lp/A;", null, null);
        dueRow(x, 8, null, "<init>", null);
        dueTexts(x, 9, null);
        noFileTables();
        valuesOfMembers();
    }

    /** Every test keeps to the 512 calls of an object. */
    private static void noFileTables() {
        ClassFileReader x = readerOf(memberFile());
        for (int kind = 10; kind <= 20; kind++) {
            dueRow(x, kind);
        }
        dueRow(x, -1);
    }

    private static void valuesOfMembers() {
        ClassFileReader x = readerOf(memberFile());
        check.due("constant(0)", x.constant(0), -7);
        int[] without = {1, 2, 3, 16, -1, Integer.MAX_VALUE, Integer.MIN_VALUE};
        for (int k : without) {
            check.due("constant(" + k + ")", x.constant(k), ClassFileReader.NONE);
        }
        dueExceptions(x);
        dueDeprecated(x, 0, 0, 1, 0);
        dueDeprecated(x, 1, 0, 1, 0);
        dueDeprecated(x, 2);
        dueDeprecated(x, 3);
        dueDeprecated(x, -1);
    }

    private static void dueExceptions(ClassFileReader x) {
        int[] counts = {3, 0, 0};
        for (int k = 0; k < 3; k++) {
            check.due("exceptions(" + k + ")", x.exceptions(k), counts[k]);
        }
        int[] noMethods = {3, 16, -1, Integer.MAX_VALUE, Integer.MIN_VALUE};
        for (int k : noMethods) {
            check.due("exceptions(" + k + ")", x.exceptions(k), ClassFileReader.REFUSED);
            check.due("exception(" + k + ", 0, 0)", x.exception(k, 0, 0), -1);
        }
        String[] names = {"p/A", "[J", "p/A"};
        for (int e = 0; e < 3; e++) {
            for (int i = 0; i < names[e].length(); i++) {
                check.due("exception(0, " + e + ", " + i + ")", x.exception(0, e, i), names[e].charAt(i));
            }
            check.due("behind exception " + e, x.exception(0, e, names[e].length()), -1);
            check.due("before exception " + e, x.exception(0, e, -1), -1);
        }
        int[] none = {3, -1, Integer.MAX_VALUE, Integer.MIN_VALUE};
        for (int e : none) {
            check.due("exception(0, " + e + ", 0)", x.exception(0, e, 0), -1);
        }
        check.due("exception(1, 0, 0)", x.exception(1, 0, 0), -1);
        check.due("exception(2, 0, 0)", x.exception(2, 0, 0), -1);
    }

    private static void dueFlags(ClassFileReader x, int kind, int... wanted) {
        for (int k = 0; k < wanted.length; k++) {
            check.due("flags(" + kind + ", " + k + ")", x.flags(kind, k), wanted[k]);
        }
        int[] none = {wanted.length, -1, 16, 17, Integer.MAX_VALUE, Integer.MIN_VALUE};
        for (int k : none) {
            check.due("flags(" + kind + ", " + k + ")", x.flags(kind, k), ClassFileReader.REFUSED);
        }
    }

    private static void dueDeprecated(ClassFileReader x, int kind, int... wanted) {
        for (int k = 0; k < wanted.length; k++) {
            check.due("deprecated(" + kind + ", " + k + ")", x.deprecated(kind, k), wanted[k]);
        }
        int[] none = {wanted.length, -1, 16, Integer.MAX_VALUE, Integer.MIN_VALUE};
        for (int k : none) {
            check.due("deprecated(" + kind + ", " + k + ")", x.deprecated(kind, k), ClassFileReader.REFUSED);
        }
    }

    /** A text for which k means nothing. */
    private static void dueTexts(ClassFileReader x, int kind, String wanted) {
        int[] all = {0, 1, -1, 99, Integer.MAX_VALUE, Integer.MIN_VALUE};
        for (int k : all) {
            check.dueText(x, kind, k, wanted);
        }
    }

    private static void dueRow(ClassFileReader x, int kind, String... wanted) {
        for (int k = 0; k < wanted.length; k++) {
            check.dueText(x, kind, k, wanted[k]);
            check.due("far behind", x.text(kind, k, Integer.MAX_VALUE), -1);
            check.due("far before", x.text(kind, k, Integer.MIN_VALUE), -1);
        }
        int[] none = {wanted.length, -1, 16, Integer.MAX_VALUE, Integer.MIN_VALUE};
        for (int k : none) {
            check.dueText(x, kind, k, null);
        }
    }

    /** All tables of the file itself. */
    private static FileBytes tableFile() {
        FileBytes file = FileBytes.start();
        int self = file.classOf("p/A");
        int inner = file.classOf("p/A$B");
        int array = file.classOf("[[D");
        int simple = file.text("B");
        int x = file.text("xs");
        int type = file.text("[I");
        int signature = file.text("Signature");
        int deprecated = file.text("Deprecated");
        int record = file.text("Record");
        int innerClasses = file.text("InnerClasses");
        int members = file.text("NestMembers");
        int permitted = file.text("PermittedSubclasses");
        int host = file.text("NestHost");
        file.endPool().header(1537, self, inner);
        file.u2(0);
        file.u2(0);
        file.u2(7);
        file.attribute(members, 2, inner, array);
        file.attribute(innerClasses, 3, inner, self, simple, 65535, array, 0, 0, 0, self, inner, 0, 9);
        file.u2(record);
        file.u4(2 + 6 + 6 + 8 + 6);
        file.u2(2);
        file.u2(x);
        file.u2(type);
        file.u2(0);
        file.u2(simple);
        file.u2(type);
        file.u2(2);
        file.attribute(signature, x);
        file.attribute(deprecated);
        file.attribute(permitted, 3, self, self, inner);
        file.attribute(host, array);
        file.attribute(signature, host);
        file.attribute(deprecated);
        return file;
    }

    private static void tables() {
        ClassFileReader x = readerOf(tableFile());
        dueNumbers(x, 61, 1537, 17, 0, 0, 0, 3, 2, 3, 2, 1, 1);
        dueFlags(x, 0);
        dueFlags(x, 1);
        dueFlags(x, 2, 65535, 0, 9);
        dueTexts(x, 0, "p/A");
        dueTexts(x, 1, "p/A$B");
        for (int kind = 2; kind <= 8; kind++) {
            dueRow(x, kind);
        }
        dueTexts(x, 9, "NestHost");
        textsOfTables();
        check.due("constant(0)", x.constant(0), ClassFileReader.NONE);
        check.due("exceptions(0)", x.exceptions(0), ClassFileReader.REFUSED);
        check.due("exception(0, 0, 0)", x.exception(0, 0, 0), -1);
    }

    private static void textsOfTables() {
        ClassFileReader x = readerOf(tableFile());
        dueRow(x, 10, "xs", "B");
        dueRow(x, 11, "[I", "[I");
        dueRow(x, 12, null, "xs");
        dueRow(x, 13, "p/A$B", "[[D", "p/A");
        dueRow(x, 14, "p/A", null, "p/A$B");
        dueRow(x, 15, "B", null, null);
        dueTexts(x, 16, "[[D");
        dueRow(x, 17, "p/A$B", "[[D");
        dueRow(x, 18, "p/A", "p/A", "p/A$B");
        dueRow(x, 19);
        dueDeprecated(x, 0);
        dueDeprecated(x, 1);
        dueDeprecated(x, 2, 0, 1);
    }

    private static void bareFile() {
        FileBytes file = FileBytes.start();
        int self = file.classOf("Q");
        file.endPool().header(0, self, 0);
        file.endEmpty().set2(6, 45);
        ClassFileReader x = readerOf(file);
        dueNumbers(x, 45, 0, 3, 0, 0, 0, 0, 0, 0, 0, 0, 0);
        dueTexts(x, 0, "Q");
        for (int kind = 1; kind <= 19; kind++) {
            dueRow(x, kind);
        }
        FileBytes record = FileBytes.start();
        int own = record.classOf("Q");
        int name = record.text("Record");
        record.endPool().header(0, own, 0);
        record.u2(0);
        record.u2(0);
        record.u2(1);
        record.attribute(name, 0);
        ClassFileReader y = readerOf(record);
        check.due("components of an empty Record", y.number(9), 0);
        check.due("an empty Record is there", y.number(11), 1);
    }

    /** What stands behind a list would name an entry too, but is none of its elements. */
    private static void behindTheLists() {
        FileBytes file = FileBytes.start();
        int self = file.classOf("A");
        int f = file.text("f");
        int g = file.text("g");
        int type = file.text("I");
        int method = file.text("()V");
        int exceptions = file.text("Exceptions");
        int innerClasses = file.text("InnerClasses");
        int signature = file.text("Signature");
        file.endPool().header(33, self, 0, self);
        check.due("the number of fields names the class", self, 2);
        file.u2(2);
        file.member(0, f, type, 0);
        file.member(0, g, type, 0);
        file.u2(1);
        file.member(0, f, method, 1);
        file.attribute(exceptions, 1, self);
        file.u2(2);
        file.attribute(innerClasses, 1, self, self, f, 0);
        file.attribute(signature, g);
        ClassFileReader x = readerOf(file);
        dueRow(x, 2, "A");
        check.due("exception(0, 0, 0)", x.exception(0, 0, 0), 'A');
        check.due("exception(0, 1, 0)", x.exception(0, 1, 0), -1);
        dueRow(x, 13, "A");
        dueRow(x, 14, "A");
        dueRow(x, 15, "f");
        dueFlags(x, 2, 0);
    }

    private static void constants() {
        long none = ClassFileReader.NONE;
        dueConstant("I", FileBytes.INT, Integer.MIN_VALUE, Integer.MIN_VALUE);
        dueConstant("I", FileBytes.INT, Integer.MAX_VALUE, Integer.MAX_VALUE);
        dueConstant("Z", FileBytes.INT, -1, -1);
        dueConstant("C", FileBytes.INT, 0, 0);
        dueConstant("F", FileBytes.FLOAT, 0x7FC00000, 0x7FC00000);
        dueConstant("F", FileBytes.FLOAT, 0xBF800000, 0xBF800000);
        int[] tags = {FileBytes.LONG, FileBytes.DOUBLE};
        for (int tag : tags) {
            String type = tag == FileBytes.LONG ? "J" : "D";
            dueConstant(type, tag, 0, 0);
            dueConstant(type, tag, -1, -1);
            dueConstant(type, tag, 0xFFFFFFFFL, 0xFFFFFFFFL);
            dueConstant(type, tag, 0x100000000L, 0x100000000L);
            dueConstant(type, tag, none - 1, none - 1);
            dueConstant(type, tag, none, none);
            dueConstant(type, tag, none + 1, none);
            dueConstant(type, tag, 1 - none, 1 - none);
            dueConstant(type, tag, -none, none);
            dueConstant(type, tag, -none - 1, none);
            dueConstant(type, tag, Long.MAX_VALUE, none);
            dueConstant(type, tag, Long.MIN_VALUE, none);
        }
        dueConstant("D", FileBytes.DOUBLE, Double.doubleToRawLongBits(1.0), none);
    }

    private static void dueConstant(String type, int tag, long value, long wanted) {
        FileBytes file = FileBytes.start();
        int self = file.classOf("A");
        int name = file.text("f");
        int typeText = file.text(type);
        int attribute = file.text("ConstantValue");
        boolean wide = tag == FileBytes.LONG || tag == FileBytes.DOUBLE;
        int entry = wide ? file.wide(tag, value) : file.word(tag, (int) value);
        file.endPool().header(33, self, 0);
        file.u2(1);
        file.member(0, name, typeText, 1);
        file.attribute(attribute, entry);
        file.u2(0);
        file.u2(0);
        check.due("constant(0) of " + type + " " + value, readerOf(file).constant(0), wanted);
    }

    private static void strings() {
        int[] lengths = {0, 1, 300};
        for (int length : lengths) {
            FileBytes file = FileBytes.start();
            int self = file.classOf("A");
            int name = file.text("f");
            int type = file.text("Ljava/lang/String;");
            int attribute = file.text("ConstantValue");
            int string = file.one(FileBytes.STRING, file.text("x".repeat(length)));
            file.endPool().header(33, self, 0);
            file.u2(1);
            file.member(0, name, type, 1);
            file.attribute(attribute, string);
            file.u2(0);
            file.u2(0);
            check.due("constant(0) of a string", readerOf(file).constant(0), length);
        }
    }

    /** A mirror does not see what happens to the bytes behind it, nor a reading that fails. */
    private static void mirrorStays() {
        FileBytes file = tableFile();
        ClassFileReader x = readerOf(file);
        for (int place = 0; place < file.size(); place++) {
            x.patch(place, 255);
        }
        dueTexts(x, 0, "p/A");
        check.due("place() before the next read", x.place(), -1);
        check.dueRead("all patched", x, ClassFileReader.MAGIC, 0);
        x.drop();
        FileBytes other = memberFile();
        other.u1(0);
        FileBytes.putAll(x, other.toBytes());
        check.dueRead("a rest", x, ClassFileReader.REST, other.size() - 1);
        dueNumbers(x, 61, 1537, 17, 0, 0, 0, 3, 2, 3, 2, 1, 1);
        dueTexts(x, 0, "p/A");
        dueRow(x, 18, "p/A", "p/A", "p/A$B");
        dueRow(x, 5);
        dueFlags(x, 2, 65535, 0, 9);
        dueDeprecated(x, 2, 0, 1);
    }

    private static void places() {
        FileBytes file = memberFile();
        ClassFileReader x = file.reader();
        check.due("place() before the first read", x.place(), -1);
        x.patch(7, 44);
        check.dueRead("version", x, ClassFileReader.VERSION, 6);
        x.patch(7, 50);
        check.due("place() after a patch", x.place(), 6);
        x.put(0, 1);
        check.due("place() after a put", x.place(), 6);
        check.due("number(0) without a mirror", x.number(0), ClassFileReader.REFUSED);
        check.dueRead("rest", x, ClassFileReader.REST, file.size());
        x.drop();
        check.due("place() after a drop", x.place(), file.size());
        FileBytes.putAll(x, file.toBytes());
        check.dueRead("in order", x, 0, -1);
        check.due("number(0)", x.number(0), 61);
    }

    /** Readings one after the other leave nothing of the earlier ones. */
    private static void mirrorIsOfTheLast() {
        ClassFileReader x = new ClassFileReader();
        FileBytes bare = FileBytes.start();
        int self = bare.classOf("Q");
        bare.endPool().header(0, self, 0);
        bare.endEmpty();
        for (int turn = 0; turn < 2; turn++) {
            x.drop();
            FileBytes.putAll(x, tableFile().toBytes());
            check.dueRead("tables", x, 0, -1);
            check.due("inner classes", x.number(6), 3);
            dueRow(x, 5);
            x.drop();
            FileBytes.putAll(x, memberFile().toBytes());
            check.dueRead("members", x, 0, -1);
            dueNumbers(x, 61, 33, 18, 2, 3, 3, 0, 0, 0, 0, 0, 0);
            dueRow(x, 8, null, "<init>", null);
            x.drop();
            FileBytes.putAll(x, bare.toBytes());
            check.dueRead("bare", x, 0, -1);
            check.dueRead("bare again", x, 0, -1);
            dueNumbers(x, 61, 0, 3, 0, 0, 0, 0, 0, 0, 0, 0, 0);
            dueRow(x, 3);
            check.dueText(x, 1, 0, null);
            check.dueText(x, 9, 0, null);
            check.dueText(x, 16, 0, null);
        }
    }

    private static void everyPrefixIsShort() {
        FileBytes[] files = {memberFile(), tableFile()};
        for (FileBytes file : files) {
            byte[] bytes = file.toBytes();
            for (int size = 0; size < bytes.length; size++) {
                ClassFileReader x = FileBytes.readerOf(java.util.Arrays.copyOf(bytes, size));
                check.dueRead("the first " + size + " bytes", x, ClassFileReader.SHORT, size);
            }
        }
    }
}
