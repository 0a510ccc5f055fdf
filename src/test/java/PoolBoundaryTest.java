/** The boundary cases of "Terms" up to the end of the pool: for each sentence that names one, a test of its own. */
public final class PoolBoundaryTest {
    private static final Check check = new Check();

    public static void main(String[] args) {
        numbers();
        firstThingWrong();
        shortItems();
        shortStretches();
        magic();
        minor();
        major();
        poolSize();
        entries();
        textLengths();
        textCharacters();
        words();
        wideEntries();
        wideBeforeTheyAreRead();
        secondIndexes();
        anotherTag();
        byRisingIndex();
        classIndexes();
        classNames();
        stringIndexes();
        referenceIndexes();
        nameTypeIndexes();
        nameTypeNames();
        nameTypeTypes();
        check.end();
    }

    private static FileBytes bare() {
        FileBytes file = FileBytes.start();
        return file.endBare(file.classOf("A"));
    }

    /** Reads the first bytes of the file alone. */
    private static void duePrefix(FileBytes file, int size, int code, int place) {
        byte[] bytes = java.util.Arrays.copyOf(file.toBytes(), size);
        check.dueRead("the first " + size, FileBytes.readerOf(bytes), code, place);
    }

    private static void numbers() {
        check.sentence("U1, U2, U4 are 1, 2, 4 bytes read as a number, the first one the most significant.");
        FileBytes swapped = bare();
        swapped.set2(6, 61 << 8);
        check.dueRead("MAJOR with its bytes swapped", swapped, ClassFileReader.VERSION, 6);
        FileBytes high = bare();
        high.set2(8, 256 + 3);
        check.dueRead("N of more than a byte", high, ClassFileReader.POOL, 8);
        FileBytes negative = bare();
        negative.set2(8, 65535);
        check.dueRead("N that would be below 0 if it had a sign", negative, ClassFileReader.POOL, 8);
        FileBytes skips = FileBytes.filledTo(100);
        int length = 37;
        skips.set2(length, 65535);
        skips.set2(length + 2, 65535);
        check.dueRead("a LENGTH that would be -1", skips, ClassFileReader.SHORT, 100);
        skips.set2(length + 2, 59);
        check.dueRead("a LENGTH with high bytes", skips, ClassFileReader.SHORT, 100);
    }

    private static void firstThingWrong() {
        check.sentence("The FIRST thing wrong, in the order in which things are read ... ends the reading");
        byte[] right = bare().toBytes();
        ClassFileReader x = FileBytes.readerOf(right);
        int[] places = {0, 7, 8, 10, 16, 17, 19, 22, 24, 25, 27, 29};
        int[] wrong = {0, 0, 255, 99, 9, 2, 9, 9, 1, 9, 9, 9};
        int[] codes = {ClassFileReader.MAGIC, ClassFileReader.VERSION, ClassFileReader.POOL, ClassFileReader.POOL,
            ClassFileReader.INDEX, ClassFileReader.FLAGS, ClassFileReader.INDEX, ClassFileReader.INDEX,
            ClassFileReader.INDEX, ClassFileReader.COUNT, ClassFileReader.COUNT, ClassFileReader.SHORT};
        int[] due = {0, 6, 8, 10, 14, 17, 19, 21, 25, 25, 27, 31};
        for (int i = 0; i < places.length; i++) {
            x.patch(places[i], wrong[i]);
        }
        for (int i = 0; i < places.length; i++) {
            check.dueRead("fault " + i, x, codes[i], due[i]);
            x.patch(places[i], right[places[i]] & 255);
        }
        check.dueRead("all mended", x, 0, -1);
    }

    private static void shortItems() {
        check.sentence("If fewer bytes are left than an item ... has, ... SHORT, the place the number of bytes.");
        FileBytes file = FileBytes.start();
        int self = file.classOf("A");
        int name = file.text("f");
        int type = file.text("I");
        file.word(FileBytes.INT, 1);
        file.wide(FileBytes.LONG, 1);
        file.one(FileBytes.STRING, name);
        file.two(FileBytes.FIELD, self, 10);
        check.due("the index of the next", file.two(FileBytes.NAMETYPE, name, type), 10);
        file.endPool().header(33, self, 0, self);
        file.u2(1);
        file.member(0, name, type, 0);
        file.u2(0);
        file.u2(0);
        for (int size = 0; size < file.size(); size++) {
            duePrefix(file, size, ClassFileReader.SHORT, size);
        }
        duePrefix(file, file.size(), 0, -1);
    }

    private static void shortStretches() {
        check.sentence("If fewer bytes are left than ... a skipped stretch has, the code is SHORT");
        FileBytes file = FileBytes.filledTo(480);
        for (int size = 41; size < 480; size++) {
            duePrefix(file, size, ClassFileReader.SHORT, size);
        }
        check.dueSound("a stretch of no bytes", FileBytes.filledTo(41));
        check.dueSound("a stretch of one byte", FileBytes.filledTo(42));
        long[] lengths = {440, 65535, 65536 + 439, 2147483647L, 2147483648L, 2147483648L + 439, 4294967295L};
        for (long length : lengths) {
            file.set2(37, (int) (length >> 16));
            file.set2(39, (int) length);
            check.dueRead("a stretch of " + length, file, ClassFileReader.SHORT, 480);
        }
    }

    private static void magic() {
        check.sentence("U4 3405691582, else MAGIC, place 0.");
        long[] wrong = {3405691581L, 3405691583L, 0, 1, 4294967295L, 3405691582L - 2147483648L, 47806L};
        for (long magic : wrong) {
            FileBytes file = bare();
            file.set2(0, (int) (magic >> 16));
            file.set2(2, (int) magic);
            check.dueRead("magic " + magic, file, ClassFileReader.MAGIC, 0);
            duePrefix(file, 4, ClassFileReader.MAGIC, 0);
            duePrefix(file, 3, ClassFileReader.SHORT, 3);
        }
        check.dueSound("magic", bare());
    }

    private static void minor() {
        check.sentence("U2 (means nothing).");
        int[] all = {0, 1, 3, 32768, 65535};
        for (int value : all) {
            FileBytes file = bare();
            file.set2(4, value);
            check.dueSound("a minor of " + value, file);
        }
    }

    private static void major() {
        check.sentence("U2 MAJOR 45 .. 65, else VERSION at it.");
        for (int major = 0; major <= 400; major++) {
            FileBytes file = bare();
            file.set2(6, major);
            boolean fits = major >= 45 && major <= 65;
            check.dueRead("MAJOR " + major, file, fits ? 0 : ClassFileReader.VERSION, fits ? -1 : 6);
        }
        int[] large = {32767, 32768, 32768 + 50, 65535};
        for (int major : large) {
            FileBytes file = bare();
            file.set2(6, major);
            check.dueRead("MAJOR " + major, file, ClassFileReader.VERSION, 6);
            duePrefix(file, 8, ClassFileReader.VERSION, 6);
        }
    }

    private static void poolSize() {
        check.sentence("U2 N, 1 .. 64, else POOL at it.");
        for (int n = 1; n <= 64; n++) {
            check.due("number(2) of N " + n, numberOf(poolOf(n)), n < 3 ? -1 : n);
        }
        check.dueRead("N 1", poolOf(1), ClassFileReader.INDEX, 12);
        check.dueRead("N 2", poolOf(2), ClassFileReader.INDEX, 16);
        int[] wrong = {0, 65, 66, 128, 255, 256, 257, 320, 32768, 65535};
        for (int n : wrong) {
            FileBytes file = poolOf(3);
            file.set2(8, n);
            check.dueRead("N " + n, file, ClassFileReader.POOL, 8);
            duePrefix(file, 10, ClassFileReader.POOL, 8);
        }
    }

    /** A pool with N n: a text, then a class named by it, then numbers; THIS is the class, if it is there. */
    private static FileBytes poolOf(int n) {
        FileBytes file = FileBytes.start();
        for (int index = 1; index < n; index++) {
            if (index == 1) {
                file.text("A");
            } else if (index == 2) {
                file.one(FileBytes.CLASS, 1);
            } else {
                file.word(FileBytes.INT, index);
            }
        }
        return file.endBare(2);
    }

    private static int numberOf(FileBytes file) {
        ClassFileReader x = file.reader();
        x.read();
        return x.number(2);
    }

    private static void entries() {
        check.sentence("THE POOL: entries with indexes from 1 on, until the next index would be N.");
        int[] sizes = {2, 3, 4, 63, 64};
        for (int n : sizes) {
            FileBytes file = FileBytes.start();
            for (int index = 2; index < n; index++) {
                file.word(FileBytes.INT, index);
            }
            int string = file.one(FileBytes.STRING, 0);
            file.endPool();
            int place = file.placeOf(string);
            check.due("the last index", string, n - 1);
            check.dueRead("the last entry is looked at", file, ClassFileReader.INDEX, place);
        }
        FileBytes last = FileBytes.start();
        last.text("A");
        for (int index = 2; index < 63; index++) {
            last.word(FileBytes.INT, index);
        }
        check.dueSound("THIS is the last of a full pool", last.endBare(last.one(FileBytes.CLASS, 1)));
        FileBytes first = FileBytes.start();
        first.one(FileBytes.CLASS, 2);
        first.text("A");
        check.dueSound("THIS is the first entry", first.endBare(1));
        FileBytes more = bare();
        more.set2(8, 4);
        check.dueRead("the flags read as an entry", more, ClassFileReader.POOL, 17);
    }

    private static void textLengths() {
        check.sentence("1 TEXT: U2 length and so many U1");
        int most = 480 - bare().size() - 3;
        int[] lengths = {0, 1, 127, 128, 255, 256, most};
        for (int length : lengths) {
            FileBytes file = FileBytes.start();
            int self = file.classOf("A");
            int text = file.text("x".repeat(length));
            file.endBare(self);
            check.dueSound("a text of " + length, file);
            file.set2(file.placeOf(text) + 1, 65535);
            int end = file.placeOf(text) + 3 + length;
            check.dueRead("a text of 65535", file, ClassFileReader.POOL, end);
        }
        FileBytes open = FileBytes.start();
        open.set2(8, 2);
        open.u1(FileBytes.TEXT);
        open.u2(480 - 12);
        while (open.size() < 480) {
            open.u1('x');
        }
        check.dueRead("a text of one more than there are", open, ClassFileReader.SHORT, 480);
        open.set2(11, 480 - 13);
        check.dueRead("a text to the last byte", open, ClassFileReader.SHORT, 480);
    }

    private static void textCharacters() {
        check.sentence("read one by one, each 1 .. 127, else POOL at it");
        int[] characters = {0, 1, 2, 126, 127, 128, 129, 254, 255};
        for (int c : characters) {
            boolean fits = c > 0 && c < 128;
            for (int at = 0; at < 3; at++) {
                FileBytes file = FileBytes.start();
                int self = file.classOf("A");
                int place = file.placeOf(file.text("abc")) + 3 + at;
                file.endBare(self).set1(place, c);
                check.dueRead("character " + c, file, fits ? 0 : ClassFileReader.POOL, fits ? -1 : place);
                int code = fits ? ClassFileReader.SHORT : ClassFileReader.POOL;
                duePrefix(file, place + 1, code, fits ? place + 1 : place);
            }
        }
    }

    private static void words() {
        check.sentence("3 INT, 4 FLOAT: U4");
        int[] values = {0, 1, -1, Integer.MAX_VALUE, Integer.MIN_VALUE, 0x7F800001};
        for (int tag = FileBytes.INT; tag <= FileBytes.FLOAT; tag++) {
            for (int value : values) {
                FileBytes file = FileBytes.start();
                file.word(tag, value);
                check.dueSound("any value", file.endBare(file.classOf("A")));
            }
        }
    }

    private static void wideEntries() {
        check.sentence("5 LONG, 6 DOUBLE: two U4, taking two indexes ...: POOL ... if the second would not be below N");
        for (int tag = FileBytes.LONG; tag <= FileBytes.DOUBLE; tag++) {
            for (int index = 3; index <= 63; index++) {
                FileBytes wide = FileBytes.start();
                int self = wide.classOf("A");
                for (int i = 3; i < index; i++) {
                    wide.word(FileBytes.INT, 0);
                }
                check.due("its index", wide.wide(tag, 0), index);
                wide.endBare(self);
                boolean fits = index < 63;
                check.dueRead("at " + index, wide, fits ? 0 : ClassFileReader.POOL, fits ? -1 : 8);
                wide.set2(8, index + 1);
                check.dueRead("at " + index + ", the last", wide, ClassFileReader.POOL, wide.placeOf(index));
            }
        }
    }

    private static void wideBeforeTheyAreRead() {
        check.sentence("POOL at the tag, before they are read");
        for (int tag = FileBytes.LONG; tag <= FileBytes.DOUBLE; tag++) {
            FileBytes file = FileBytes.start();
            int place = file.u1(tag);
            file.set2(8, 2);
            check.dueRead("the tag alone", file, ClassFileReader.POOL, place);
            file.u4(0);
            check.dueRead("and half of it", file, ClassFileReader.POOL, place);
            file.set2(8, 3);
            check.dueRead("half of it, with its second index", file, ClassFileReader.SHORT, file.size());
        }
    }

    private static void secondIndexes() {
        check.sentence("the second of which names nothing");
        for (int tag = FileBytes.LONG; tag <= FileBytes.DOUBLE; tag++) {
            FileBytes file = FileBytes.start();
            int string = file.one(FileBytes.STRING, 2);
            file.text("A");
            int self = file.one(FileBytes.CLASS, 2);
            int wide = file.wide(tag, 0x0100014107000200L);
            int place = file.endBare(self).size() - 14;
            check.dueSound("without a use", file);
            file.set2(file.placeOf(string) + 1, wide + 1);
            check.dueRead("as a text", file, ClassFileReader.INDEX, file.placeOf(string));
            file.set2(file.placeOf(string) + 1, 2);
            file.set2(place + 2, wide + 1);
            check.dueRead("as THIS", file, ClassFileReader.INDEX, place + 2);
        }
    }

    private static void anotherTag() {
        check.sentence("Another tag: POOL at it.");
        for (int tag = 0; tag <= 255; tag++) {
            boolean known = tag == 1 || tag >= 3 && tag <= 12;
            FileBytes file = FileBytes.start();
            file.text("A");
            int place = file.u1(tag);
            file.set2(8, 5);
            int code = known ? ClassFileReader.SHORT : ClassFileReader.POOL;
            check.dueRead("tag " + tag, file, code, known ? place + 1 : place);
        }
    }

    private static void byRisingIndex() {
        check.sentence("... looked at by rising index; what is wrong has the place of the entry's tag.");
        FileBytes file = FileBytes.start();
        file.one(FileBytes.STRING, 4);
        file.one(FileBytes.CLASS, 4);
        file.two(FileBytes.NAMETYPE, 4, 4);
        file.text("");
        file.two(FileBytes.METHOD, 2, 9);
        int self = file.classOf("A");
        file.endBare(self);
        int[] wrong = {2, 3, 5};
        int[] codes = {ClassFileReader.NAME, ClassFileReader.NAME, ClassFileReader.INDEX};
        for (int i = 0; i < wrong.length; i++) {
            check.dueRead("entry " + wrong[i], file, codes[i], file.placeOf(wrong[i]));
            file.set1(file.placeOf(wrong[i]), wrong[i] == 2 ? FileBytes.STRING : FileBytes.INT);
        }
        check.dueSound("none is left", file);
        file.set2(file.placeOf(1) + 1, 0);
        check.dueRead("the first entry", file, ClassFileReader.INDEX, 10);
        int end = file.placeOf(self) + 3;
        duePrefix(file, end, ClassFileReader.INDEX, 10);
        duePrefix(file, end - 1, ClassFileReader.SHORT, end - 1);
    }

    /** Indexes that name no entry of a pool with N n. */
    private static int[] noEntries(int n) {
        return new int[] {0, n, n + 1, 63, 64, 65, 128, 256, 256 + 1, 32768, 32768 + 1, 65535};
    }

    private static void classIndexes() {
        check.sentence("CLASS: the U2 must name a TEXT, else INDEX");
        FileBytes file = FileBytes.start();
        int self = file.classOf("A");
        int place = file.placeOf(self);
        file.endBare(self);
        check.dueSound("a text", file);
        for (int index : noEntries(3)) {
            file.set2(place + 1, index);
            check.dueRead("names " + index, file, ClassFileReader.INDEX, place);
        }
        file.set2(place + 1, self);
        check.dueRead("names itself", file, ClassFileReader.INDEX, place);
    }

    private static void classNames() {
        check.sentence("which is a CLASS NAME or an ARRAY NAME, else NAME");
        dueClass("", false);
        dueClass("a", true);
        dueClass("/", false);
        dueClass("[", false);
        dueClass("[I", true);
        dueClass("[".repeat(255) + "I", true);
        dueClass("[".repeat(256) + "I", false);
        dueClass("[".repeat(255), false);
        dueClass("[".repeat(255) + "La/b;", true);
        dueClass("[".repeat(256) + "La/b;", false);
        dueClass("a".repeat(400), true);
        dueClass("a/".repeat(200) + "a", true);
        dueClass("a/".repeat(200), false);
    }

    private static void dueClass(String name, boolean fits) {
        FileBytes file = FileBytes.start();
        int self = file.classOf("A");
        int place = file.placeOf(file.classOf(name));
        file.endBare(self);
        check.dueRead("class " + name, file, fits ? 0 : ClassFileReader.NAME, fits ? -1 : place);
    }

    private static void stringIndexes() {
        check.sentence("STRING: the U2 must name a TEXT, else INDEX.");
        FileBytes file = FileBytes.start();
        int self = file.classOf("A");
        int place = file.placeOf(file.one(FileBytes.STRING, file.text("")));
        file.endBare(self);
        check.dueSound("an empty text", file);
        for (int index : noEntries(5)) {
            file.set2(place + 1, index);
            check.dueRead("names " + index, file, ClassFileReader.INDEX, place);
        }
    }

    private static void referenceIndexes() {
        check.sentence("FIELD, METHOD, INTERFACE METHOD: the first ... a CLASS, the second a NAMETYPE, else INDEX.");
        for (int tag = FileBytes.FIELD; tag <= FileBytes.INTERFACE_METHOD; tag++) {
            FileBytes file = FileBytes.start();
            int self = file.classOf("A");
            int both = file.two(FileBytes.NAMETYPE, 1, 4);
            file.text("I");
            int place = file.placeOf(file.two(tag, self, both));
            file.endBare(self);
            check.dueSound("tag " + tag, file);
            for (int index : noEntries(6)) {
                file.set2(place + 1, index);
                check.dueRead("the first names " + index, file, ClassFileReader.INDEX, place);
                file.set2(place + 1, self);
                file.set2(place + 3, index);
                check.dueRead("the second names " + index, file, ClassFileReader.INDEX, place);
                file.set2(place + 3, both);
            }
        }
    }

    private static FileBytes nameType(String name, String type) {
        FileBytes file = FileBytes.start();
        int self = file.classOf("A");
        file.two(FileBytes.NAMETYPE, file.text(name), file.text(type));
        return file.endBare(self);
    }

    private static void nameTypeIndexes() {
        check.sentence("NAMETYPE: both must name a TEXT, else INDEX");
        FileBytes file = nameType("", "");
        int place = file.placeOf(5);
        for (int index : noEntries(6)) {
            file.set2(place + 1, index);
            file.set2(place + 3, 4);
            check.dueRead("the first names " + index, file, ClassFileReader.INDEX, place);
            file.set2(place + 1, 3);
            file.set2(place + 3, index);
            check.dueRead("the second names " + index, file, ClassFileReader.INDEX, place);
        }
    }

    private static void nameTypeNames() {
        check.sentence("the first one is a MEMBER NAME or <init>, else NAME");
        String[] right = {"a", "<init>", "a".repeat(400), " "};
        for (String name : right) {
            check.dueSound("name " + name, nameType(name, "I"));
        }
        String[] wrong = {"", "<clinit>", "<init", "<init>x", "<", "/"};
        for (String name : wrong) {
            FileBytes file = nameType(name, "");
            check.dueRead("name " + name, file, ClassFileReader.NAME, file.placeOf(5));
        }
    }

    private static void nameTypeTypes() {
        check.sentence("the second one a FIELD TYPE or a METHOD TYPE, else TYPE");
        String most = "[".repeat(255);
        String[] right = {"I", "()V", most + "I", "(" + most + "I)V", "()" + most + "I", "(" + "I".repeat(400) + ")V"};
        for (String type : right) {
            check.dueSound("type " + type, nameType("a", type));
        }
        String[] wrong = {"", "V", "()", "(", "[", most + "[I", "(" + most + "[I)V", "()" + most + "[I", most};
        for (String type : wrong) {
            FileBytes file = nameType("<init>", type);
            check.dueRead("type " + type, file, ClassFileReader.TYPE, file.placeOf(5));
        }
    }
}
