/** The boundary cases of promises 5 to 13: for each sentence that names one, a test of its own. */
public final class MirrorBoundaryTest {
    private static final Check check = new Check();
    private static final int REFUSED = ClassFileReader.REFUSED;
    private static final long NONE = ClassFileReader.NONE;
    private static final int MIN = Integer.MIN_VALUE;
    private static final int MAX = Integer.MAX_VALUE;

    public static void main(String[] args) {
        noneAtFirst();
        ofTheFileReadLast();
        readAnswersAndMirrors();
        theMirrorStays();
        everyCodeLeavesTheMirror();
        placeOfTheLastRead();
        placeIfNothingWasWrong();
        placeBeforeTheFirst();
        numbersWithoutAttributes();
        numbersOfEmptyAttributes();
        numbersAtTheirMost();
        numberOfAnotherWhat();
        numberWithoutAMirror();
        flagsAtTheirMost();
        flagsOfNone();
        flagsOfAnotherKind();
        textOfAnotherKind();
        textsThatAreNotThere();
        textsOfNoSuchMember();
        noSuchCharacter();
        emptyTexts();
        longTexts();
        kMeansNothing();
        exceptionsWithoutIt();
        exceptionsOfNoMethod();
        exceptionIfThereIsNone();
        constantsOfAWord();
        constantsOfTwoWords();
        constantsAtTheEndsOfThePool();
        constantsOfStrings();
        constantIfThereIsNone();
        deprecatedOrNot();
        deprecatedOfNone();
        deprecatedOfAnotherKind();
        check.end();
    }

    private static ClassFileReader sound(FileBytes file) {
        ClassFileReader x = file.reader();
        check.dueRead("a file in order", x, 0, -1);
        return x;
    }

    private static void replace(ClassFileReader x, FileBytes file) {
        x.drop();
        FileBytes.putAll(x, file.toBytes());
    }

    private static FileBytes bare(String name) {
        FileBytes file = FileBytes.start();
        return file.endBare(file.classOf(name));
    }

    /** Two fields, two methods and two components; the last of each has all that it can have. */
    private static FileBytes members() {
        FileBytes file = FileBytes.start();
        int self = file.classOf("A");
        int a = file.text("a");
        int b = file.text("bc");
        int type = file.text("I");
        int method = file.text("()V");
        int signature = file.text("Signature");
        int deprecated = file.text("Deprecated");
        int exceptions = file.text("Exceptions");
        int value = file.text("ConstantValue");
        int record = file.text("Record");
        int number = file.word(FileBytes.INT, 77);
        file.endPool().header(33, self, 0);
        file.u2(2);
        file.member(1, a, type, 0);
        file.member(2, b, type, 3);
        file.attribute(signature, a);
        file.attribute(deprecated);
        file.attribute(value, number);
        file.u2(2);
        file.member(4, a, method, 0);
        file.member(8, b, method, 3);
        file.attribute(signature, b);
        file.attribute(deprecated);
        file.attribute(exceptions, 2, self, self);
        file.u2(1);
        file.u2(record);
        file.u4(2 + 6 + 6 + 8 + 6);
        file.u2(2);
        file.u2(a);
        file.u2(type);
        file.u2(0);
        file.u2(b);
        file.u2(type);
        file.u2(2);
        file.attribute(signature, type);
        file.attribute(deprecated);
        return file;
    }

    /** Lists of two in the file's table. */
    private static FileBytes lists() {
        FileBytes file = FileBytes.start();
        int self = file.classOf("A");
        int other = file.classOf("p/B");
        int simple = file.text("B");
        int inner = file.text("InnerClasses");
        int members = file.text("NestMembers");
        int permitted = file.text("PermittedSubclasses");
        int host = file.text("NestHost");
        int signature = file.text("Signature");
        file.endPool().header(33, self, other, other, self);
        file.u2(0);
        file.u2(0);
        file.u2(5);
        file.attribute(inner, 2, other, self, simple, 9, self, 0, 0, 10);
        file.attribute(members, 2, self, other);
        file.attribute(permitted, 2, other, self);
        file.attribute(host, other);
        file.attribute(signature, simple);
        return file;
    }

    /** 16 fields and 16 methods without attributes; the flags of each are its own. */
    private static FileBytes full() {
        FileBytes file = FileBytes.start();
        int self = file.classOf("A");
        int type = file.text("I");
        int method = file.text("()V");
        for (int k = 0; k < 16; k++) {
            file.text("" + (char) ('a' + k));
        }
        file.endPool().header(33, self, 0);
        for (int kind = 0; kind < 2; kind++) {
            file.u2(16);
            for (int k = 0; k < 16; k++) {
                file.member(4096 * k + (kind == 0 ? 1 : 2), method + 1 + k, kind == 0 ? type : method, 0);
            }
        }
        file.u2(0);
        return file;
    }

    private static void dueNoMirror(ClassFileReader x) {
        for (int i = -1; i <= 19; i++) {
            check.due("number(" + i + ")", x.number(i), REFUSED);
            check.due("flags(" + i + ", 0)", x.flags(i, 0), REFUSED);
            check.due("text(" + i + ", 0, 0)", x.text(i, 0, 0), -1);
            check.due("exceptions(" + i + ")", x.exceptions(i), REFUSED);
            check.due("exception(" + i + ", 0, 0)", x.exception(i, 0, 0), -1);
            check.due("constant(" + i + ")", x.constant(i), NONE);
            check.due("deprecated(" + i + ", 0)", x.deprecated(i, 0), REFUSED);
        }
    }

    private static void noneAtFirst() {
        check.sentence("THE MIRROR is of the file read last without a fault; none at first.");
        dueNoMirror(new ClassFileReader());
        ClassFileReader unread = members().reader();
        dueNoMirror(unread);
        FileBytes rest = members();
        rest.u1(0);
        ClassFileReader x = rest.reader();
        check.dueRead("a fault at the last byte", x, ClassFileReader.REST, rest.size() - 1);
        dueNoMirror(x);
    }

    private static void ofTheFileReadLast() {
        check.sentence("THE MIRROR is of the file read last without a fault");
        ClassFileReader x = sound(members());
        replace(x, lists());
        check.due("not yet read", x.number(4), 2);
        check.dueRead("another file", x, 0, -1);
        check.due("number(4)", x.number(4), 0);
        check.due("number(6)", x.number(6), 2);
        check.due("deprecated(1, 1)", x.deprecated(1, 1), REFUSED);
        replace(x, members());
        check.dueRead("the first again", x, 0, -1);
        check.due("number(6)", x.number(6), 0);
        check.due("deprecated(1, 1)", x.deprecated(1, 1), 1);
        check.dueText(x, 16, 0, null);
        replace(x, bare("Q"));
        check.dueRead("a bare file", x, 0, -1);
        check.dueText(x, 0, 0, "Q");
        check.due("number(11)", x.number(11), 0);
        check.due("constant(1)", x.constant(1), NONE);
        check.dueRead("the bare file again", x, 0, -1);
        check.due("number(4)", x.number(4), 0);
        check.due("number(5)", x.number(5), 0);
        check.due("number(9)", x.number(9), 0);
        check.dueText(x, 10, 0, null);
    }

    private static void readAnswersAndMirrors() {
        check.sentence("Reads the bytes: 0, and the mirror is of them");
        ClassFileReader x = bare("A").reader();
        check.due("read()", x.read(), 0);
        check.dueText(x, 0, 0, "A");
        check.due("read() again", x.read(), 0);
        check.dueText(x, 0, 0, "A");
        check.due("patch(13, 66)", x.patch(13, 'B'), 'A');
        check.dueText(x, 0, 0, "A");
        check.due("read() of the patched", x.read(), 0);
        check.dueText(x, 0, 0, "B");
        check.due("the bytes are there still", x.drop(), bare("A").size());
    }

    private static void theMirrorStays() {
        check.sentence("or the code of what is wrong, and the mirror stays.");
        ClassFileReader x = sound(members());
        byte[] right = members().toBytes();
        for (int size = 0; size < right.length; size += 13) {
            x.drop();
            FileBytes.putAll(x, java.util.Arrays.copyOf(right, size));
            check.dueRead("the first " + size, x, ClassFileReader.SHORT, size);
            check.due("number(9)", x.number(9), 2);
            check.due("constant(1)", x.constant(1), 77);
            check.due("text(12, 1, 0)", x.text(12, 1, 0), 'I');
        }
    }

    private static void everyCodeLeavesTheMirror() {
        check.sentence("the code of what is wrong, and the mirror stays: every code");
        FileBytes[] wrong = faults();
        check.due("as many as there are codes", wrong.length, ClassFileReader.COUNT);
        for (int i = 0; i < wrong.length; i++) {
            ClassFileReader x = sound(lists());
            replace(x, wrong[i]);
            check.due("read()", x.read(), i + 1);
            check.due("number(2)", x.number(2), 11);
            check.dueText(x, 0, 0, "A");
            check.dueText(x, 18, 0, "p/B");
            check.due("flags(2, 1)", x.flags(2, 1), 10);
            check.due("flags(0, 0)", x.flags(0, 0), REFUSED);
        }
    }

    /** For each code from 1 on a file with that fault. */
    private static FileBytes[] faults() {
        int name = members().placeOf(3) + 3;
        int fields = members().placeOf(12) + 5 + 8;
        FileBytes none = new FileBytes();
        FileBytes rest = members();
        rest.u1(0);
        return new FileBytes[] {none, with(3, 0), with(7, 44), with(9, 65), with(fields + 5, 99), with(fields + 3, 3),
            with(name, '/'), with(fields + 7, 6), with(fields + 13, 3), with(fields + 23, 3), rest,
            with(fields + 1, 17)};
    }

    private static FileBytes with(int place, int value) {
        FileBytes file = members();
        file.set1(place, value);
        return file;
    }

    private static void placeOfTheLastRead() {
        check.sentence("The place of what was wrong in the last read");
        ClassFileReader x = bare("A").reader();
        int size = bare("A").size();
        x.put(0, 1);
        check.due("read()", x.read(), ClassFileReader.REST);
        check.due("place()", x.place(), size);
        check.due("place() again", x.place(), size);
        x.patch(0, 0);
        check.due("place() after a patch", x.place(), size);
        x.put(0, 8);
        check.due("place() after a put", x.place(), size);
        x.number(0);
        check.due("place() after a question", x.place(), size);
        x.drop();
        check.due("place() after a drop", x.place(), size);
        check.due("read()", x.read(), ClassFileReader.SHORT);
        check.due("place() of the next", x.place(), 0);
        FileBytes full = FileBytes.filledTo(480);
        full.set2(39, 440);
        check.dueRead("the largest place", full, ClassFileReader.SHORT, 480);
    }

    private static void placeIfNothingWasWrong() {
        check.sentence("-1 if nothing was");
        ClassFileReader x = bare("A").reader();
        x.patch(7, 0);
        check.dueRead("a fault", x, ClassFileReader.VERSION, 6);
        x.patch(7, 61);
        check.due("place() before the next read", x.place(), 6);
        check.due("read()", x.read(), 0);
        check.due("place()", x.place(), -1);
    }

    private static void placeBeforeTheFirst() {
        check.sentence("or before the first one.");
        ClassFileReader x = new ClassFileReader();
        check.due("place()", x.place(), -1);
        x.put(0, 8);
        check.due("place() after a put", x.place(), -1);
        x.put(0, 9);
        check.due("place() after a refused put", x.place(), -1);
        x.drop();
        check.due("place() after a drop", x.place(), -1);
    }

    private static void numbersWithoutAttributes() {
        check.sentence("0 for an attribute that is not there");
        ClassFileReader x = sound(bare("A"));
        for (int what = 3; what <= 11; what++) {
            check.due("number(" + what + ")", x.number(what), 0);
        }
    }

    private static void numbersOfEmptyAttributes() {
        check.sentence("1 if Deprecated is there, else 0 (10), 1 if Record is there, else 0 (11)");
        String[] names = {"InnerClasses", "NestMembers", "PermittedSubclasses", "Record", "Deprecated"};
        for (int i = 0; i < names.length; i++) {
            FileBytes file = FileBytes.start();
            int self = file.classOf("A");
            int name = file.text(names[i]);
            file.endPool().header(33, self, 0);
            file.u2(0);
            file.u2(0);
            file.u2(1);
            if (i == 4) {
                file.attribute(name);
            } else {
                file.attribute(name, 0);
            }
            ClassFileReader x = sound(file);
            for (int what = 6; what <= 9; what++) {
                check.due("an empty " + names[i] + ": number(" + what + ")", x.number(what), 0);
            }
            check.due("number(10)", x.number(10), i == 4 ? 1 : 0);
            check.due("number(11)", x.number(11), i == 3 ? 1 : 0);
        }
        check.due("Deprecated of members alone", sound(members()).number(10), 0);
    }

    private static void numbersAtTheirMost() {
        check.sentence("MAJOR (0), FLAGS (1), N (2), interfaces (3), fields (4), methods (5)");
        FileBytes file = full();
        file.set2(6, 65);
        ClassFileReader x = sound(file);
        check.due("number(0)", x.number(0), 65);
        check.due("number(4)", x.number(4), 16);
        check.due("number(5)", x.number(5), 16);
        FileBytes least = bare("A");
        least.set2(6, 45);
        check.due("number(0) at its least", sound(least).number(0), 45);
        FileBytes flags = FileBytes.start();
        int self = flags.classOf("A");
        for (int i = 3; i < 64; i++) {
            flags.word(FileBytes.FLOAT, i);
        }
        flags.endPool().header(65535 - 16 - 32 - 16384, self, 0);
        ClassFileReader y = sound(flags.endEmpty());
        check.due("number(1) at its most", y.number(1), 49103);
        check.due("number(2) at its most", y.number(2), 64);
    }

    private static void numberOfAnotherWhat() {
        check.sentence("REFUSED for another what");
        ClassFileReader x = sound(lists());
        int[] others = {-1, 12, 13, -2, 256, 65536, MAX, MIN};
        for (int what : others) {
            check.due("number(" + what + ")", x.number(what), REFUSED);
        }
        check.due("number(0)", x.number(0), 61);
        check.due("number(11)", x.number(11), 0);
    }

    private static void numberWithoutAMirror() {
        check.sentence("REFUSED ... without a mirror.");
        ClassFileReader x = bare("A").reader();
        for (int what = -1; what <= 12; what++) {
            check.due("number(" + what + ")", x.number(what), REFUSED);
        }
        x.read();
        check.due("number(2) with one", x.number(2), 3);
    }

    private static void flagsAtTheirMost() {
        check.sentence("The flags of field k (kind 0), method k (1), inner class k (2), from 0");
        ClassFileReader x = sound(full());
        for (int k = 0; k < 16; k++) {
            check.due("flags(0, " + k + ")", x.flags(0, k), 4096 * k + 1);
            check.due("flags(1, " + k + ")", x.flags(1, k), 4096 * k + 2);
        }
        ClassFileReader y = sound(lists());
        check.due("flags(2, 0)", y.flags(2, 0), 9);
        check.due("flags(2, 1)", y.flags(2, 1), 10);
    }

    private static void flagsOfNone() {
        check.sentence("REFUSED if there is none");
        ClassFileReader x = sound(full());
        int[] none = {16, 17, -1, 65536, MAX, MIN};
        for (int k : none) {
            check.due("flags(0, " + k + ")", x.flags(0, k), REFUSED);
            check.due("flags(1, " + k + ")", x.flags(1, k), REFUSED);
            check.due("flags(2, " + k + ")", x.flags(2, k), REFUSED);
        }
        check.due("flags(2, 0) without InnerClasses", x.flags(2, 0), REFUSED);
        ClassFileReader y = sound(lists());
        int[] noInner = {2, 3, -1, 1 << 29, 1 << 30, MAX, MIN};
        for (int k : noInner) {
            check.due("flags(2, " + k + ")", y.flags(2, k), REFUSED);
        }
        check.due("flags(0, 0) without fields", y.flags(0, 0), REFUSED);
        check.due("flags(1, 0) without methods", y.flags(1, 0), REFUSED);
    }

    private static void flagsOfAnotherKind() {
        check.sentence("flags: REFUSED ... for another kind.");
        ClassFileReader x = sound(members());
        int[] others = {-1, 3, 4, 256, MAX, MIN};
        for (int kind : others) {
            check.due("flags(" + kind + ", 0)", x.flags(kind, 0), REFUSED);
            check.due("flags(" + kind + ", 1)", x.flags(kind, 1), REFUSED);
        }
    }

    private static void textOfAnotherKind() {
        check.sentence("text: -1 for another kind");
        ClassFileReader x = sound(members());
        ClassFileReader y = sound(lists());
        int[] others = {-1, 19, 20, 32, 256, MAX, MIN};
        for (int kind : others) {
            check.due("text(" + kind + ", 0, 0)", x.text(kind, 0, 0), -1);
            check.due("text(" + kind + ", 0, 0) of lists", y.text(kind, 0, 0), -1);
        }
    }

    private static void textsThatAreNotThere() {
        check.sentence("a text that is not there");
        ClassFileReader x = sound(bare("A"));
        for (int kind = 1; kind <= 18; kind++) {
            check.dueText(x, kind, 0, null);
        }
        ClassFileReader y = sound(members());
        int[] signatures = {7, 8, 12};
        String[] there = {"a", "bc", "I"};
        for (int i = 0; i < 3; i++) {
            check.dueText(y, signatures[i], 0, null);
            check.dueText(y, signatures[i], 1, there[i]);
        }
        ClassFileReader z = sound(lists());
        check.dueText(z, 13, 0, "p/B");
        check.dueText(z, 14, 0, "A");
        check.dueText(z, 15, 0, "B");
        check.dueText(z, 13, 1, "A");
        check.dueText(z, 14, 1, null);
        check.dueText(z, 15, 1, null);
    }

    private static void textsOfNoSuchMember() {
        check.sentence("a text that is not there: no such k");
        ClassFileReader x = sound(members());
        ClassFileReader y = sound(lists());
        int[] none = {2, 16, -1, 1 << 29, 1 << 30, MAX, MIN};
        int[] ofMembers = {3, 4, 5, 6, 7, 8, 10, 11, 12};
        int[] ofLists = {2, 13, 14, 15, 17, 18};
        for (int k : none) {
            for (int kind : ofMembers) {
                check.due("text(" + kind + ", " + k + ", 0)", x.text(kind, k, 0), -1);
            }
            for (int kind : ofLists) {
                check.due("text(" + kind + ", " + k + ", 0)", y.text(kind, k, 0), -1);
            }
        }
        check.dueText(x, 3, 1, "bc");
        check.dueText(x, 11, 1, "I");
        check.dueText(y, 2, 1, "A");
        check.dueText(y, 17, 1, "p/B");
        check.dueText(y, 18, 1, "A");
    }

    private static void noSuchCharacter() {
        check.sentence("or no such character.");
        ClassFileReader x = sound(lists());
        int[] none = {3, 4, -1, 65536, MAX, MIN};
        for (int index : none) {
            check.due("text(1, 0, " + index + ")", x.text(1, 0, index), -1);
            check.due("text(2, 0, " + index + ")", x.text(2, 0, index), -1);
            check.due("text(9, 0, " + index + ")", x.text(9, 0, index), -1);
            check.due("text(13, 0, " + index + ")", x.text(13, 0, index), -1);
            check.due("text(16, 0, " + index + ")", x.text(16, 0, index), -1);
        }
        check.due("the first", x.text(1, 0, 0), 'p');
        check.due("the last", x.text(1, 0, 2), 'B');
    }

    private static void emptyTexts() {
        check.sentence("no such character: of an empty text");
        FileBytes file = FileBytes.start();
        int self = file.classOf("A");
        int empty = file.text("");
        int signature = file.text("Signature");
        int inner = file.text("InnerClasses");
        file.endPool().header(33, self, 0);
        file.u2(0);
        file.u2(0);
        file.u2(2);
        file.attribute(signature, empty);
        file.attribute(inner, 1, self, 0, empty, 0);
        ClassFileReader x = sound(file);
        check.dueText(x, 9, 0, "");
        check.dueText(x, 15, 0, "");
    }

    private static void longTexts() {
        check.sentence("The character at the index (from 0) of a text of the mirror: the longest name");
        int most = 480 - bare("").size();
        ClassFileReader x = sound(bare("a".repeat(most - 2) + "yz"));
        int[] indexes = {0, 127, 128, 255, 256, most - 3, most - 2, most - 1, most, most + 1};
        int[] due = {'a', 'a', 'a', 'a', 'a', 'a', 'y', 'z', -1, -1};
        for (int i = 0; i < indexes.length; i++) {
            check.due("text(0, 0, " + indexes[i] + ")", x.text(0, 0, indexes[i]), due[i]);
        }
        ClassFileReader y = sound(bare("\u0001\u007f"));
        check.due("the least character", y.text(0, 0, 0), 1);
        check.due("the largest character", y.text(0, 0, 1), 127);
    }

    private static void kMeansNothing() {
        check.sentence("(k means nothing for 0, 1, 9, 16.)");
        ClassFileReader x = sound(lists());
        int[] any = {0, 1, -1, 2, 16, 65536, MAX, MIN};
        for (int k : any) {
            check.dueText(x, 0, k, "A");
            check.dueText(x, 1, k, "p/B");
            check.dueText(x, 9, k, "B");
            check.dueText(x, 16, k, "p/B");
        }
    }

    /** So many exceptions in the only method. */
    private static FileBytes thrown(int n) {
        FileBytes file = FileBytes.start();
        int self = file.classOf("A");
        int last = file.classOf("Z");
        int name = file.text("f");
        int type = file.text("()V");
        int exceptions = file.text("Exceptions");
        file.endPool().header(33, self, 0);
        file.u2(0);
        file.u2(1);
        file.member(0, name, type, 1);
        file.u2(exceptions);
        file.u4(2 + 2 * n);
        file.u2(n);
        for (int e = 0; e < n; e++) {
            file.u2(e == n - 1 ? last : self);
        }
        file.u2(0);
        return file;
    }

    private static void exceptionsWithoutIt() {
        check.sentence("How many classes the Exceptions of method k have, 0 without it");
        ClassFileReader x = sound(members());
        check.due("exceptions(0) without it", x.exceptions(0), 0);
        check.due("exceptions(1)", x.exceptions(1), 2);
        int most = (480 - thrown(0).size()) / 2;
        int[] numbers = {0, 1, 16, 17, most};
        for (int n : numbers) {
            check.due("exceptions(0) of " + n, sound(thrown(n)).exceptions(0), n);
        }
        ClassFileReader full = sound(full());
        check.due("exceptions(15)", full.exceptions(15), 0);
    }

    private static void exceptionsOfNoMethod() {
        check.sentence("exceptions: REFUSED if there is no such method.");
        ClassFileReader x = sound(full());
        int[] none = {16, 17, -1, 65536, MAX, MIN};
        for (int k : none) {
            check.due("exceptions(" + k + ")", x.exceptions(k), REFUSED);
        }
        ClassFileReader fields = sound(lists());
        check.due("exceptions(0) without methods", fields.exceptions(0), REFUSED);
        check.due("exceptions(0) without a mirror", new ClassFileReader().exceptions(0), REFUSED);
    }

    private static void exceptionIfThereIsNone() {
        check.sentence("The character at the index of the name of class e (from 0) ...; -1 if there is none.");
        int most = (480 - thrown(0).size()) / 2;
        int[] numbers = {0, 1, 17, most};
        int[] far = {-1, 65536, 1 << 30, MAX, MIN};
        for (int n : numbers) {
            ClassFileReader x = sound(thrown(n));
            check.due("class n", x.exception(0, n, 0), -1);
            for (int none : far) {
                check.due("exception(0, " + none + ", 0)", x.exception(0, none, 0), -1);
                check.due("exception(" + none + ", 0, 0)", x.exception(none, 0, 0), -1);
                check.due("exception(0, 0, " + none + ")", x.exception(0, 0, none), -1);
            }
            check.due("method 1", x.exception(1, 0, 0), -1);
            check.due("the first", x.exception(0, 0, 0), n == 0 ? -1 : n == 1 ? 'Z' : 'A');
            check.due("the last", x.exception(0, n - 1, 0), n == 0 ? -1 : 'Z');
            check.due("behind its name", x.exception(0, n - 1, 1), -1);
        }
        ClassFileReader without = sound(members());
        check.due("a method without it", without.exception(0, 0, 0), -1);
        check.due("a method with it", without.exception(1, 1, 0), 'A');
    }

    private static long constantOf(String type, int tag, long value) {
        FileBytes file = FileBytes.start();
        int self = file.classOf("A");
        int name = file.text("f");
        int typeText = file.text(type);
        int attribute = file.text("ConstantValue");
        boolean wide = tag == FileBytes.LONG || tag == FileBytes.DOUBLE;
        int entry = wide ? file.wide(tag, value) : file.word(tag, (int) value);
        file.endPool().header(33, self, 0);
        file.u2(1);
        file.member(0, name, typeText, 1);
        file.attribute(attribute, entry);
        file.u2(0);
        file.u2(0);
        return sound(file).constant(0);
    }

    private static void constantsOfAWord() {
        check.sentence("an INT or FLOAT: its U4 as an int");
        int[] values = {0, 1, -1, 127, 128, 255, 256, -256, 65535, 65536, MAX, MIN, MIN + 1, 0x7FC00000, 0xFF800000};
        for (int value : values) {
            String[] types = {"I", "S", "C", "B", "Z"};
            for (String type : types) {
                check.due("constant(0) of " + type + " " + value, constantOf(type, FileBytes.INT, value), value);
            }
            check.due("constant(0) of F " + value, constantOf("F", FileBytes.FLOAT, value), value);
        }
    }

    private static void constantsOfTwoWords() {
        check.sentence("a LONG or DOUBLE: both U4 as one number, if it is below NONE and above -NONE, else NONE");
        long[] near = {0, 1, -1, 1L << 31, -(1L << 31), (1L << 32) - 1, 1L << 32, -(1L << 32), NONE - 1, 1 - NONE};
        long[] far = {NONE, NONE + 1, -NONE, -NONE - 1, Long.MAX_VALUE, Long.MIN_VALUE, Long.MIN_VALUE + 1};
        for (int tag = FileBytes.LONG; tag <= FileBytes.DOUBLE; tag++) {
            String type = tag == FileBytes.LONG ? "J" : "D";
            for (long value : near) {
                check.due("constant(0) of " + type + " " + value, constantOf(type, tag, value), value);
            }
            for (long value : far) {
                check.due("constant(0) of " + type + " " + value, constantOf(type, tag, value), NONE);
            }
        }
    }

    /** The constant is the first entry of the pool, or the last one that a full pool can have. */
    private static FileBytes constantAt(int tag, boolean first) {
        boolean wide = tag == FileBytes.LONG || tag == FileBytes.DOUBLE;
        FileBytes file = FileBytes.start();
        int before = first ? addConstant(file, tag) : 0;
        int self = file.classOf("A");
        int type = file.text("IFJD".substring(tag - FileBytes.INT, tag - FileBytes.INT + 1));
        int last = file.text("ConstantValue");
        int most = wide ? 61 : 62;
        while (!first && last < most) {
            last = file.word(FileBytes.INT, 0);
        }
        int constant = first ? before : addConstant(file, tag);
        check.due("its index", constant, first ? 1 : most + 1);
        file.endPool().header(33, self, 0);
        file.u2(1);
        file.member(0, type, type, 1);
        file.attribute(type + 1, constant);
        file.u2(0);
        file.u2(0);
        return file;
    }

    private static int addConstant(FileBytes file, int tag) {
        boolean wide = tag == FileBytes.LONG || tag == FileBytes.DOUBLE;
        return wide ? file.wide(tag, -5) : file.word(tag, -5);
    }

    private static void constantsAtTheEndsOfThePool() {
        check.sentence("What ConstantValue of field k names: the first entry and the last");
        for (int tag = FileBytes.INT; tag <= FileBytes.DOUBLE; tag++) {
            check.due("constant(0) of " + tag, sound(constantAt(tag, true)).constant(0), -5);
            check.due("constant(0) of " + tag, sound(constantAt(tag, false)).constant(0), -5);
        }
    }

    private static FileBytes stringOf(int length) {
        FileBytes file = FileBytes.start();
        int self = file.classOf("A");
        int type = file.text("Ljava/lang/String;");
        int attribute = file.text("ConstantValue");
        int string = file.one(FileBytes.STRING, file.text("x".repeat(length)));
        file.endPool().header(33, self, 0);
        file.u2(1);
        file.member(0, attribute, type, 1);
        file.attribute(attribute, string);
        file.u2(0);
        file.u2(0);
        return file;
    }

    private static void constantsOfStrings() {
        check.sentence("a STRING: the length of its text.");
        int most = 480 - stringOf(0).size();
        int[] lengths = {0, 1, 127, 128, 255, 256, most};
        for (int length : lengths) {
            check.due("constant(0)", sound(stringOf(length)).constant(0), length);
        }
    }

    private static void constantIfThereIsNone() {
        check.sentence("NONE if there is no such field or no ConstantValue.");
        ClassFileReader x = sound(members());
        check.due("constant(0) without ConstantValue", x.constant(0), NONE);
        check.due("constant(1)", x.constant(1), 77);
        int[] none = {2, 3, 16, -1, 65536, MAX, MIN};
        for (int k : none) {
            check.due("constant(" + k + ")", x.constant(k), NONE);
        }
        ClassFileReader full = sound(full());
        check.due("constant(15)", full.constant(15), NONE);
        check.due("constant(16)", full.constant(16), NONE);
        check.due("constant(0) without fields", sound(lists()).constant(0), NONE);
        check.due("constant(0) without a mirror", members().reader().constant(0), NONE);
    }

    private static void deprecatedOrNot() {
        check.sentence("1 if field k (kind 0), method k (1), or component k (2) has Deprecated, 0 if not");
        ClassFileReader x = sound(members());
        for (int kind = 0; kind < 3; kind++) {
            check.due("deprecated(" + kind + ", 0)", x.deprecated(kind, 0), 0);
            check.due("deprecated(" + kind + ", 1)", x.deprecated(kind, 1), 1);
        }
        ClassFileReader full = sound(full());
        check.due("deprecated(0, 15)", full.deprecated(0, 15), 0);
        check.due("deprecated(1, 15)", full.deprecated(1, 15), 0);
    }

    private static void deprecatedOfNone() {
        check.sentence("deprecated: REFUSED if there is none");
        ClassFileReader x = sound(members());
        ClassFileReader full = sound(full());
        ClassFileReader without = sound(lists());
        int[] none = {2, 16, -1, 65536, MAX, MIN};
        for (int kind = 0; kind < 3; kind++) {
            for (int k : none) {
                check.due("deprecated(" + kind + ", " + k + ")", x.deprecated(kind, k), REFUSED);
            }
            check.due("deprecated(" + kind + ", 16)", full.deprecated(kind, 16), REFUSED);
            check.due("deprecated(" + kind + ", 0) of none", without.deprecated(kind, 0), REFUSED);
            check.due("without a mirror", new ClassFileReader().deprecated(kind, 0), REFUSED);
        }
    }

    private static void deprecatedOfAnotherKind() {
        check.sentence("deprecated: REFUSED ... for another kind.");
        ClassFileReader x = sound(members());
        int[] others = {-1, 3, 4, 256, MAX, MIN};
        for (int kind : others) {
            check.due("deprecated(" + kind + ", 0)", x.deprecated(kind, 0), REFUSED);
            check.due("deprecated(" + kind + ", 1)", x.deprecated(kind, 1), REFUSED);
        }
    }
}
