/** Promise 5: the start of a file and its pool. */
public final class PoolTest {
    private static final Check check = new Check();

    public static void main(String[] args) {
        start();
        poolSize();
        tags();
        texts();
        wideEntries();
        shortEntries();
        classes();
        strings();
        references();
        nameTypes();
        order();
        check.end();
    }

    private static FileBytes bare(int major) {
        FileBytes file = FileBytes.start();
        int self = file.classOf("A");
        file.endPool().header(33, self, 0);
        file.endEmpty().set2(6, major);
        return file;
    }

    private static void start() {
        for (int i = 0; i < 4; i++) {
            FileBytes file = bare(61);
            file.set1(i, 0xCB);
            check.dueRead("magic byte " + i, file, ClassFileReader.MAGIC, 0);
        }
        FileBytes minor = bare(61);
        minor.set2(4, 65535);
        check.dueSound("a minor number means nothing", minor);
        int[] wrong = {0, 44, 66, 301, 65535};
        for (int major : wrong) {
            check.dueRead("major " + major, bare(major), ClassFileReader.VERSION, 6);
        }
        check.dueSound("major 45", bare(45));
        check.dueSound("major 65", bare(65));
        FileBytes both = bare(44);
        both.set1(0, 0);
        both.set2(8, 0);
        check.dueRead("magic before version", both, ClassFileReader.MAGIC, 0);
        both.set1(0, 0xCA);
        check.dueRead("version before N", both, ClassFileReader.VERSION, 6);
        for (int size = 0; size < 10; size++) {
            ClassFileReader x = new ClassFileReader();
            for (int i = 0; i < size; i++) {
                x.put(bare(61).toBytes()[i], 1);
            }
            check.dueRead("only " + size + " bytes", x, ClassFileReader.SHORT, size);
        }
        ClassFileReader x = new ClassFileReader();
        x.put(0, 3);
        check.dueRead("three bytes that are no magic", x, ClassFileReader.SHORT, 3);
    }

    private static void poolSize() {
        int[] wrong = {0, 65, 256, 65535};
        for (int n : wrong) {
            FileBytes file = bare(61);
            file.set2(8, n);
            check.dueRead("N " + n, file, ClassFileReader.POOL, 8);
        }
        FileBytes none = FileBytes.start().endPool();
        none.u2(33);
        int self = none.u2(1);
        check.dueRead("N 1: no entry", none, ClassFileReader.INDEX, self);
        FileBytes most = FileBytes.start();
        int named = most.classOf("A");
        for (int i = 3; i < 64; i++) {
            most.word(FileBytes.INT, i);
        }
        most.endPool().header(33, named, 0);
        check.dueSound("N 64", most.endEmpty());
        check.due("N 64: number(2)", soundReader(most).number(2), 64);
    }

    private static ClassFileReader soundReader(FileBytes file) {
        ClassFileReader x = file.reader();
        x.read();
        return x;
    }

    private static void tags() {
        for (int tag = 0; tag <= 255; tag++) {
            boolean known = tag == 1 || tag >= 3 && tag <= 12;
            FileBytes file = FileBytes.start();
            int text = file.text("a");
            int place = file.u1(tag);
            file.set2(8, 64);
            int code = known ? ClassFileReader.SHORT : ClassFileReader.POOL;
            check.dueRead("tag " + tag, file, code, known ? file.size() : place);
            check.due("the text's index", text, 1);
        }
    }

    private static void texts() {
        for (int c = 0; c <= 255; c++) {
            FileBytes file = FileBytes.start();
            int self = file.classOf("A");
            int text = file.text("x" + (char) c + "y");
            file.endPool().header(33, self, 0);
            boolean fits = c >= 1 && c <= 127;
            int place = file.placeOf(text) + 4;
            check.dueRead("character " + c, file.endEmpty(), fits ? 0 : ClassFileReader.POOL, fits ? -1 : place);
        }
        FileBytes wrongFirst = FileBytes.start().endPool();
        wrongFirst.set2(8, 2);
        wrongFirst.u1(1);
        wrongFirst.u2(500);
        wrongFirst.u1('a');
        int place = wrongFirst.u1(128);
        wrongFirst.u1('a');
        check.dueRead("a wrong character before the short end", wrongFirst, ClassFileReader.POOL, place);
        wrongFirst.set1(place, 127);
        check.dueRead("a text that ends too soon", wrongFirst, ClassFileReader.SHORT, wrongFirst.size());
    }

    private static void wideEntries() {
        int[] wide = {FileBytes.LONG, FileBytes.DOUBLE};
        for (int tag : wide) {
            FileBytes last = FileBytes.start();
            int self = last.classOf("A");
            int index = last.wide(tag, -1);
            int end = last.text("Zz");
            last.endPool().header(33, self, 0);
            last.endEmpty();
            check.due("two indexes", end, index + 2);
            check.dueSound("wide " + tag, last);
            last.set2(8, index + 1);
            check.dueRead("wide without its second index", last, ClassFileReader.POOL, last.placeOf(index));
            FileBytes tagOnly = FileBytes.start();
            int place = tagOnly.u1(tag);
            tagOnly.set2(8, 2);
            check.dueRead("looked at before it is read", tagOnly, ClassFileReader.POOL, place);
            tagOnly.set2(8, 3);
            check.dueRead("wide, cut short", tagOnly, ClassFileReader.SHORT, place + 1);
            secondIndexNamesNothing(tag);
        }
    }

    private static void secondIndexNamesNothing(int tag) {
        FileBytes file = FileBytes.start();
        file.text("A");
        int wide = file.wide(tag, 0x0100014101000141L);
        int string = file.one(FileBytes.STRING, wide + 1);
        file.endPool();
        check.dueRead("the second index", file, ClassFileReader.INDEX, file.placeOf(string));
    }

    private static void shortEntries() {
        int[] sizes = {-1, 2, -1, 4, 4, 8, 8, 2, 2, 4, 4, 4, 4};
        for (int tag = 1; tag < sizes.length; tag++) {
            if (sizes[tag] < 0) {
                continue;
            }
            for (int have = 0; have < sizes[tag]; have++) {
                FileBytes file = FileBytes.start();
                file.set2(8, 3);
                file.u1(tag);
                for (int i = 0; i < have; i++) {
                    file.u1(1);
                }
                check.dueRead("tag " + tag + " with " + have, file, ClassFileReader.SHORT, file.size());
            }
        }
    }

    private static void classes() {
        String[] right = {"A", "a/b", "a/b/c", "<", "a-b", "(I)V", "\u0001", "[I", "[[La/b;", "I", "a b"};
        for (String name : right) {
            check.dueSound("class " + name, withClass(name));
        }
        String[] wrong = {"", "/", "/a", "a/", "a//b", "a.b", "a;", "La;", "[", "[A", "[a/b", "[[", "[V", "a[", "[I[",
            "[II", "[L;", "[La", "[La.b;", "[La;b"};
        for (String name : wrong) {
            FileBytes file = withClass(name);
            check.dueRead("class " + name, file, ClassFileReader.NAME, file.placeOf(4));
        }
        int[] noText = {0, 3, 4, 5, 6, 7, 8, 64, 65535};
        for (int index : noText) {
            FileBytes file = FileBytes.start();
            file.classOf("A");
            file.wide(FileBytes.LONG, 1);
            int place = file.placeOf(file.one(FileBytes.CLASS, index));
            file.word(FileBytes.INT, 1);
            file.endPool();
            check.dueRead("class that names " + index, file, ClassFileReader.INDEX, place);
        }
    }

    private static FileBytes withClass(String name) {
        FileBytes file = FileBytes.start();
        int self = file.classOf("A");
        file.classOf(name);
        file.endPool().header(33, self, 0);
        return file.endEmpty();
    }

    private static void strings() {
        FileBytes file = FileBytes.start();
        int string = file.one(FileBytes.STRING, 2);
        file.text("");
        int self = file.classOf("A");
        file.endPool().header(33, self, 0);
        file.endEmpty();
        check.dueSound("a string of an empty text behind it", file);
        int[] wrong = {0, string, self, 5, 65535};
        for (int index : wrong) {
            file.set2(file.placeOf(string) + 1, index);
            check.dueRead("string of " + index, file, ClassFileReader.INDEX, file.placeOf(string));
        }
    }

    private static void references() {
        int[] tags = {FileBytes.FIELD, FileBytes.METHOD, FileBytes.INTERFACE_METHOD};
        for (int tag : tags) {
            FileBytes file = FileBytes.start();
            int reference = file.two(tag, 3, 4);
            file.text("A");
            int self = file.one(FileBytes.CLASS, 2);
            int both = file.two(FileBytes.NAMETYPE, 5, 6);
            file.text("f");
            file.text("()V");
            file.endPool().header(33, self, 0);
            file.endEmpty();
            int place = file.placeOf(reference);
            check.dueSound("reference " + tag, file);
            for (int index = 0; index <= 8; index++) {
                file.set2(place + 1, index);
                boolean right = index == self;
                check.dueRead("first of " + tag, file, right ? 0 : ClassFileReader.INDEX, right ? -1 : place);
            }
            file.set2(place + 1, self);
            for (int index = 0; index <= 8; index++) {
                file.set2(place + 3, index);
                boolean right = index == both;
                check.dueRead("second of " + tag, file, right ? 0 : ClassFileReader.INDEX, right ? -1 : place);
            }
        }
    }

    private static void nameTypes() {
        check.dueSound("a field", withNameType("f", "I"));
        check.dueSound("a method", withNameType("f", "()V"));
        check.dueSound("<init>", withNameType("<init>", "()V"));
        check.dueSound("<init> as a field", withNameType("<init>", "I"));
        String[] names = {"", "<clinit>", "<init", "init>", "a.b", "a;", "a[", "a/b", "<", ">"};
        for (String name : names) {
            FileBytes file = withNameType(name, "?");
            check.dueRead("name " + name, file, ClassFileReader.NAME, file.placeOf(5));
        }
        String[] types = {"", "?", "V", "()", "(V)V", "II"};
        for (String type : types) {
            FileBytes file = withNameType("f", type);
            check.dueRead("type " + type, file, ClassFileReader.TYPE, file.placeOf(5));
        }
        for (int item = 1; item <= 3; item += 2) {
            for (int index = 0; index <= 7; index++) {
                FileBytes file = withNameType("f", "I");
                file.set2(file.placeOf(5) + item, index);
                boolean text = index == 1 || index == 3 || index == 4;
                if (!text) {
                    check.dueRead("nametype of " + index, file, ClassFileReader.INDEX, file.placeOf(5));
                }
            }
        }
        FileBytes file = withNameType("", "I");
        file.set2(file.placeOf(5) + 3, 2);
        check.dueRead("INDEX of the second before NAME of the first", file, ClassFileReader.INDEX, file.placeOf(5));
    }

    private static FileBytes withNameType(String name, String type) {
        FileBytes file = FileBytes.start();
        int self = file.classOf("A");
        file.two(FileBytes.NAMETYPE, file.text(name), file.text(type));
        file.endPool().header(33, self, 0);
        return file.endEmpty();
    }

    /** Entries are looked at when all are read, by rising index. */
    private static void order() {
        FileBytes file = FileBytes.start();
        int first = file.one(FileBytes.CLASS, 0);
        int second = file.one(FileBytes.STRING, 0);
        int third = file.u1(2);
        file.set2(8, 4);
        check.dueRead("a wrong tag before a wrong index", file, ClassFileReader.POOL, third);
        file.set2(8, 3);
        check.dueRead("the first of two", file, ClassFileReader.INDEX, file.placeOf(first));
        file.set1(file.placeOf(first), FileBytes.INT);
        FileBytes swapped = FileBytes.start();
        int name = swapped.classOf("a.b");
        swapped.one(FileBytes.STRING, 0);
        swapped.endPool();
        check.dueRead("NAME of an earlier entry", swapped, ClassFileReader.NAME, swapped.placeOf(name));
        check.due("indexes rise", second, 2);
    }
}
