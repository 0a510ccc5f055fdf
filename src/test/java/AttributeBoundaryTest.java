/** The boundary cases of AN ATTRIBUTE TABLE: for each sentence that names one, a test of its own. */
public final class AttributeBoundaryTest extends AttributeTables {
    private static final Check check = new Check();

    /** Indexes that name no entry of the pool. */
    private static final int[] NO_ENTRIES = {0, 12, 13, 63, 64, 65, 256, 32768, 65535};

    public static void main(String[] args) {
        counts();
        names();
        twice();
        twiceLookedAtWhenLengthIsRead();
        twiceInTheSameTable();
        unknownTwice();
        skipped();
        signatureLength();
        signatureIndex();
        deprecatedLength();
        constantLength();
        constantKinds();
        listLeastLength();
        listLength();
        listWrapAround();
        emptyLists();
        fullLists();
        listElements();
        innerClassItems();
        fullInnerClasses();
        nestHost();
        recordLeastLength();
        recordCount();
        recordComponents();
        componentTables();
        recordLengthBehind();
        check.end();
    }

    private static FileBytes upToCount(int kind, String name, int count) {
        FileBytes file = upTo(kind, name);
        file.u2(count);
        return file;
    }

    private static void counts() {
        check.sentence("AN ATTRIBUTE TABLE: U2 count, then so many attributes");
        for (int kind = FIELD; kind <= FILE; kind++) {
            check.dueSound("no attributes", end(kind, upToCount(kind, "X", 0)));
            int[] large = {1, 2, 256, 32768, 65535};
            for (int count : large) {
                FileBytes file = upToCount(kind, "X", count);
                check.dueRead(count + " attributes, no bytes", file, ClassFileReader.SHORT, file.size());
            }
            FileBytes many = upToCount(kind, "X", 50);
            for (int i = 0; i < 50; i++) {
                many.attribute(ATTRIBUTE);
            }
            check.dueSound("50 attributes", end(kind, many));
        }
    }

    private static void names() {
        check.sentence("U2 name, which must name a TEXT, else INDEX at it");
        for (int kind = FIELD; kind <= FILE; kind++) {
            for (int index : NO_ENTRIES) {
                FileBytes file = upToCount(kind, "X", 1);
                int place = file.u2(index);
                check.dueRead("named by " + index, file, ClassFileReader.INDEX, place);
                file.u4(4294967295L);
                check.dueRead("with a LENGTH", file, ClassFileReader.INDEX, place);
            }
            check.dueSound("an empty name", end(kind, withList(kind, "", 0)));
        }
    }

    private static final String[] OF_FILE = {"InnerClasses", "NestMembers", "PermittedSubclasses", "Record"};

    private static void twice() {
        check.sentence("it has not come before in the same table, else TWICE at the name");
        for (int kind = FIELD; kind <= FILE; kind++) {
            dueTwice(kind, "Signature", NAME);
            dueTwice(kind, "Deprecated");
        }
        dueTwice(METHOD, "Exceptions", 0);
        dueTwice(FILE, "NestHost", SELF);
        for (String name : OF_FILE) {
            dueTwice(FILE, name, 0);
        }
        FileBytes file = FileBytes.start();
        int self = file.classOf("A");
        int type = file.text("I");
        int value = file.text("ConstantValue");
        int number = file.word(FileBytes.INT, 1);
        file.endPool().header(33, self, 0);
        file.u2(1);
        file.member(0, type, type, 2);
        file.attribute(value, number);
        check.dueRead("ConstantValue twice", file, ClassFileReader.TWICE, file.attribute(value, number));
    }

    /** With others between the two, by the same text and by another. */
    private static void dueTwice(int kind, String name, int... content) {
        for (int again = ATTRIBUTE; again <= ATTRIBUTE_AGAIN; again++) {
            FileBytes file = upToCount(kind, name, 3);
            file.attribute(ATTRIBUTE, content);
            file.attribute(NAME, 1, 2, 3);
            int place = file.attribute(again, content);
            check.dueRead(name + " twice", file, ClassFileReader.TWICE, place);
        }
    }

    private static void twiceLookedAtWhenLengthIsRead() {
        check.sentence("(looked at when LENGTH is read)");
        for (int kind = FIELD; kind <= FILE; kind++) {
            FileBytes file = upToCount(kind, "Signature", 2);
            file.attribute(ATTRIBUTE, NAME);
            int place = file.u2(ATTRIBUTE_AGAIN);
            check.dueRead("without a LENGTH", file, ClassFileReader.SHORT, place + 2);
            file.u1(255);
            file.u2(65535);
            check.dueRead("with three bytes of it", file, ClassFileReader.SHORT, place + 5);
            file.u1(255);
            check.dueRead("with a wrong LENGTH", file, ClassFileReader.TWICE, place);
        }
    }

    private static void twiceInTheSameTable() {
        check.sentence("in the same table");
        FileBytes file = upToCount(FIELD, "Deprecated", 1);
        file.attribute(ATTRIBUTE);
        file.u2(2);
        file.member(0, NAME, METHOD_TYPE, 1);
        file.attribute(ATTRIBUTE);
        file.member(0, RECORD, METHOD_TYPE, 1);
        file.attribute(ATTRIBUTE);
        file.u2(2);
        file.u2(RECORD);
        file.u4(2 + 2 * 12);
        file.u2(2);
        for (int k = 0; k < 2; k++) {
            file.u2(NAME);
            file.u2(TYPE);
            file.u2(1);
            file.attribute(ATTRIBUTE);
        }
        file.attribute(ATTRIBUTE_AGAIN);
        check.dueSound("once in each of six tables", file);
    }

    private static void unknownTwice() {
        check.sentence("If the table KNOWS the name: ... has not come before: what it does not know may");
        String[] names = {"X", "", "ConstantValue", "Exceptions", "NestHost", "InnerClasses", "NestMembers",
            "PermittedSubclasses", "Record"};
        for (String name : names) {
            FileBytes file = upToCount(COMPONENT, name, 2);
            file.attribute(ATTRIBUTE);
            file.attribute(ATTRIBUTE_AGAIN, 7, 7);
            check.dueSound(name + " twice in a component", end(COMPONENT, file));
        }
        FileBytes field = upToCount(FIELD, "Exceptions", 2);
        field.attribute(ATTRIBUTE, 65535);
        field.attribute(ATTRIBUTE);
        check.dueSound("Exceptions twice in a field", end(FIELD, field));
        FileBytes method = upToCount(METHOD, "ConstantValue", 2);
        method.attribute(ATTRIBUTE);
        method.attribute(ATTRIBUTE);
        check.dueSound("ConstantValue twice in a method", end(METHOD, method));
    }

    private static void skipped() {
        check.sentence("Any other one's content is so many skipped bytes.");
        for (int kind = FIELD; kind <= FILE; kind++) {
            int[] right = {0, 1, 2, 255, 256};
            for (int length : right) {
                FileBytes file = withList(kind, "X", length);
                for (int i = 0; i < length; i++) {
                    file.u1(255);
                }
                int size = file.size();
                check.dueSound("skips " + length, end(kind, file));
                byte[] cut = java.util.Arrays.copyOf(file.toBytes(), Math.max(size - 1, 0));
                check.dueRead("one is missing", FileBytes.readerOf(cut), ClassFileReader.SHORT, cut.length);
            }
            long[] large = {3, 65536, 65536 + 2, 2147483647L, 2147483648L, 2147483648L + 2, 4294967295L};
            for (long length : large) {
                FileBytes file = withList(kind, "X", length, 0);
                check.dueRead("skips " + length, file, ClassFileReader.SHORT, file.size());
            }
        }
    }

    /** Every LENGTH but the right one, before the content is read. */
    private static void dueLength(int kind, String name, int right) {
        long[] lengths = {0, 1, 2, 3, 4, 255, 256, 258, 65535, 65536, 65538, 2147483647L, 2147483648L, 2147483650L,
            4294967294L, 4294967295L};
        for (long length : lengths) {
            FileBytes file = withList(kind, name, length);
            int place = file.size() - 4;
            if (length != right) {
                check.dueRead(name + " of " + length, file, ClassFileReader.LENGTH, place);
            } else if (length > 0) {
                check.dueRead(name + " of " + length, file, ClassFileReader.SHORT, file.size());
            } else {
                check.dueSound(name + " of " + length, end(kind, file));
            }
        }
    }

    private static void signatureLength() {
        check.sentence("Signature: LENGTH must be 2 (looked at first)");
        for (int kind = FIELD; kind <= FILE; kind++) {
            dueLength(kind, "Signature", 2);
            check.dueSound("of 2", end(kind, withList(kind, "Signature", 2, NAME)));
            FileBytes wrong = withList(kind, "Signature", 3, 0);
            check.dueRead("before the index", wrong, ClassFileReader.LENGTH, wrong.size() - 6);
        }
    }

    private static void dueIndex(int kind, String name, int index, boolean fits) {
        FileBytes file = withList(kind, name, 2, index);
        int place = file.size() - 2;
        String what = name + " names " + index;
        check.dueRead(what, end(kind, file), fits ? 0 : ClassFileReader.INDEX, fits ? -1 : place);
    }

    private static void signatureIndex() {
        check.sentence("Signature: ... U2 a TEXT");
        for (int kind = FIELD; kind <= FILE; kind++) {
            for (int index : NO_ENTRIES) {
                dueIndex(kind, "Signature", index, false);
            }
            for (int index = 1; index <= 11; index++) {
                boolean fits = index == 1 || index == 3 || index > WORD;
                dueIndex(kind, "Signature", index, fits);
            }
        }
    }

    private static void deprecatedLength() {
        check.sentence("Deprecated: LENGTH must be 0.");
        for (int kind = FIELD; kind <= FILE; kind++) {
            dueLength(kind, "Deprecated", 0);
        }
    }

    private static void constantLength() {
        check.sentence("ConstantValue: LENGTH must be 2");
        dueLength(FIELD, "ConstantValue", 2);
        dueIndex(FIELD, "ConstantValue", WORD, true);
        for (int index : NO_ENTRIES) {
            dueIndex(FIELD, "ConstantValue", index, false);
        }
    }

    private static void constantKinds() {
        check.sentence("an INT for the types I S C B Z, FLOAT for F, ... and for any other type nothing fits");
        String[] types = {"I", "S", "C", "B", "Z", "F", "J", "D", "Ljava/lang/String;", "[I", "LI;", "[J",
            "Ljava/lang/String2;", "Ljava/lang/Strin;", "[Ljava/lang/String;", "Lava/lang/String;", "LString;"};
        int[] tags = {3, 3, 3, 3, 3, 4, 5, 6, 8, 0, 0, 0, 0, 0, 0, 0, 0};
        for (int t = 0; t < types.length; t++) {
            FileBytes file = FileBytes.start();
            int self = file.classOf("A");
            int name = file.text("f");
            int type = file.text(types[t]);
            int value = file.text("ConstantValue");
            file.word(FileBytes.INT, 1);
            file.word(FileBytes.FLOAT, 1);
            file.wide(FileBytes.LONG, 1);
            file.wide(FileBytes.DOUBLE, 1);
            file.one(FileBytes.STRING, 1);
            int[] tagAt = {0, 1, 7, 1, 1, 1, 3, 4, 5, 0, 6, 0, 8, 0};
            file.endPool().header(33, self, 0);
            file.u2(1);
            file.member(0, name, type, 1);
            int place = file.attribute(value, 0) + 6;
            file.u2(0);
            file.u2(0);
            for (int index = 0; index < tagAt.length; index++) {
                file.set2(place, index);
                boolean fits = tags[t] != 0 && tagAt[index] == tags[t];
                String what = types[t] + " with " + index;
                check.dueRead(what, file, fits ? 0 : ClassFileReader.INDEX, fits ? -1 : place);
            }
        }
    }

    private static int kindOf(String list) {
        return list.equals("Exceptions") ? METHOD : FILE;
    }

    private static int sizeOf(String list) {
        return list.equals("InnerClasses") ? 8 : 2;
    }

    private static final String[] LISTS = {"Exceptions", "InnerClasses", "NestMembers", "PermittedSubclasses"};

    private static void listLeastLength() {
        check.sentence("LENGTH must be at least 2; U2 n");
        for (String list : LISTS) {
            for (int length = 0; length < 2; length++) {
                FileBytes file = withList(kindOf(list), list, length);
                int place = file.size() - 4;
                check.dueRead(list + " of " + length, file, ClassFileReader.LENGTH, place);
                file.u2(0);
                check.dueRead(list + " of " + length + " with n", file, ClassFileReader.LENGTH, place);
            }
            long[] enough = {2, 3, 4, 65536, 4294967295L};
            for (long length : enough) {
                FileBytes file = withList(kindOf(list), list, length);
                check.dueRead("no n", file, ClassFileReader.SHORT, file.size());
                file.u1(0);
                check.dueRead("half of n", file, ClassFileReader.SHORT, file.size());
            }
        }
    }

    private static void listLength() {
        check.sentence("LENGTH must be 2 + n times the size of an element");
        for (String list : LISTS) {
            int size = sizeOf(list);
            int[] numbers = {0, 1, 2, 3, 20, 255, 256, 8191, 32767, 65535};
            for (int n : numbers) {
                long right = 2 + (long) n * size;
                long[] wrong = {right - 1, right + 1, right - size, right + size, right + 2147483648L, 4294967295L};
                for (long length : wrong) {
                    FileBytes file = withList(kindOf(list), list, length);
                    int place = file.size() - 4;
                    file.u2(n);
                    check.dueRead(list + ": " + n + " in " + length, file, ClassFileReader.LENGTH, place);
                }
                FileBytes file = withList(kindOf(list), list, right, n);
                if (n > 0) {
                    check.dueRead(list + ": " + n, file, ClassFileReader.SHORT, file.size());
                } else {
                    check.dueSound(list + ": none", end(kindOf(list), file));
                }
            }
        }
    }

    private static void listWrapAround() {
        check.sentence("2 + n times the size of an element: no product wraps around");
        for (String list : LISTS) {
            int n = 65536 / sizeOf(list);
            FileBytes file = withList(kindOf(list), list, 2, n);
            check.dueRead(list + ": " + n + " in 2", file, ClassFileReader.LENGTH, file.size() - 6);
            FileBytes more = withList(kindOf(list), list, 2 + sizeOf(list), n + 1, SELF);
            check.dueRead(list + ": one more", more, ClassFileReader.LENGTH, more.size() - 8);
            FileBytes right = withList(kindOf(list), list, 65538, n);
            check.dueRead(list + ": " + n + " in 65538", right, ClassFileReader.SHORT, right.size());
        }
    }

    private static void emptyLists() {
        check.sentence("n elements: none");
        for (String list : LISTS) {
            FileBytes file = end(kindOf(list), withList(kindOf(list), list, 2, 0));
            check.dueSound("an empty " + list, file);
        }
    }

    private static void fullLists() {
        check.sentence("n elements: a CLASS (size 2): as many as the bytes allow");
        for (String list : LISTS) {
            if (sizeOf(list) == 2) {
                int kind = kindOf(list);
                int behind = kind == METHOD ? 2 : 0;
                int n = (480 - withList(kind, list, 0, 0).size() - behind) / 2;
                int[] items = new int[n + 1];
                java.util.Arrays.fill(items, SELF);
                items[0] = n;
                items[n] = ARRAY;
                ClassFileReader x = end(kind, withList(kind, list, 2 + 2 * n, items)).reader();
                check.dueRead(n + " in " + list, x, 0, -1);
                dueLast(list, x, n);
                items[n] = NAME;
                FileBytes wrong = withList(kind, list, 2 + 2 * n, items);
                check.dueRead("the last is no class", wrong, ClassFileReader.INDEX, wrong.size() - 2);
            }
        }
    }

    /** The last of n elements is "[I", and there is none behind it. */
    private static void dueLast(String list, ClassFileReader x, int n) {
        if (list.equals("Exceptions")) {
            check.due("exceptions(0)", x.exceptions(0), n);
            check.due("the last but one", x.exception(0, n - 2, 0), 'A');
            check.due("the last", x.exception(0, n - 1, 0), '[');
            check.due("the next", x.exception(0, n, 0), -1);
            return;
        }
        boolean members = list.equals("NestMembers");
        check.due("how many", x.number(members ? 7 : 8), n);
        check.due("how many of the other", x.number(members ? 8 : 7), 0);
        check.dueText(x, members ? 17 : 18, n - 2, "A");
        check.dueText(x, members ? 17 : 18, n - 1, "[I");
        check.dueText(x, members ? 17 : 18, n, null);
    }

    private static void listElements() {
        check.sentence("Indexes in contents are looked at when they are read: INDEX at it");
        for (String list : LISTS) {
            for (int index : NO_ENTRIES) {
                FileBytes file = withList(kindOf(list), list, 2 + 2 * sizeOf(list), 2, index);
                check.dueRead(list + " of " + index, file, ClassFileReader.INDEX, file.size() - 2);
            }
            for (int index = 1; index <= 11; index++) {
                FileBytes file = withList(kindOf(list), list, 2 + 2 * sizeOf(list), 2, index);
                boolean fits = index == SELF || index == ARRAY;
                int end = file.size();
                check.dueRead(list + " of " + index, file, fits ? ClassFileReader.SHORT : ClassFileReader.INDEX,
                    fits ? end : end - 2);
            }
        }
    }

    private static void innerClassItems() {
        check.sentence("for InnerClasses (size 8) a CLASS, a CLASS or 0, a TEXT or 0, and flags");
        int[][] right = {{SELF, 0, 0, 0}, {SELF, SELF, 0, 65535}, {ARRAY, 0, NAME, 3}, {SELF, ARRAY, 1, 512}};
        for (int[] r : right) {
            check.dueSound("an inner class", withList(FILE, "InnerClasses", 10, 1, r[0], r[1], r[2], r[3]));
        }
        for (int index : NO_ENTRIES) {
            for (int item = 0; item < 3; item++) {
                int[] items = {1, SELF, SELF, NAME, 0};
                items[1 + item] = index;
                FileBytes file = withList(FILE, "InnerClasses", 10, items);
                boolean fits = index == 0 && item > 0;
                int place = file.size() - 8 + 2 * item;
                check.dueRead("item " + item + " " + index, file, fits ? 0 : ClassFileReader.INDEX, fits ? -1 : place);
            }
        }
    }

    private static void fullInnerClasses() {
        check.sentence("n elements: ... for InnerClasses (size 8): as many as the bytes allow");
        int n = (480 - withList(FILE, "InnerClasses", 0, 0).size()) / 8;
        int[] items = new int[4 * n + 1];
        items[0] = n;
        for (int k = 0; k < n; k++) {
            items[4 * k + 1] = SELF;
            items[4 * k + 4] = k;
        }
        ClassFileReader x = withList(FILE, "InnerClasses", 2 + 8 * n, items).reader();
        check.dueRead(n + " inner classes", x, 0, -1);
        check.due("number(6)", x.number(6), n);
        check.due("flags of the last", x.flags(2, n - 1), n - 1);
        check.due("flags of the next", x.flags(2, n), ClassFileReader.REFUSED);
    }

    private static void nestHost() {
        check.sentence("NestHost: LENGTH must be 2, a CLASS");
        dueLength(FILE, "NestHost", 2);
        for (int index : NO_ENTRIES) {
            dueIndex(FILE, "NestHost", index, false);
        }
        for (int index = 1; index <= 11; index++) {
            dueIndex(FILE, "NestHost", index, index == SELF || index == ARRAY);
        }
    }

    private static void recordLeastLength() {
        check.sentence("Record: LENGTH must be at least 2");
        for (int length = 0; length < 2; length++) {
            FileBytes file = withList(FILE, "Record", length);
            int place = file.size() - 4;
            check.dueRead("a Record of " + length, file, ClassFileReader.LENGTH, place);
            file.u2(17);
            check.dueRead("before n", file, ClassFileReader.LENGTH, place);
        }
        long[] enough = {2, 3, 65536, 4294967295L};
        for (long length : enough) {
            FileBytes file = withList(FILE, "Record", length);
            check.dueRead("no n", file, ClassFileReader.SHORT, file.size());
        }
    }

    private static FileBytes recordOf(int n, long length) {
        int[] items = new int[1 + 3 * n];
        items[0] = n;
        for (int k = 0; k < n; k++) {
            items[1 + 3 * k] = NAME;
            items[2 + 3 * k] = TYPE;
        }
        return withList(FILE, "Record", length, items);
    }

    private static void recordCount() {
        check.sentence("U2 n, at most 16, else COUNT at it");
        int[] right = {0, 1, 15, 16};
        for (int n : right) {
            ClassFileReader x = recordOf(n, 2 + 6 * n).reader();
            check.dueRead(n + " components", x, 0, -1);
            check.due("number(9)", x.number(9), n);
        }
        FileBytes seventeen = recordOf(17, 2 + 6 * 17);
        check.dueRead("17 components", seventeen, ClassFileReader.COUNT, seventeen.size() - 6 * 17 - 2);
        int[] wrong = {17, 18, 255, 256, 257, 32768, 65535};
        for (int n : wrong) {
            FileBytes file = withList(FILE, "Record", 2, n);
            check.dueRead(n + " components", file, ClassFileReader.COUNT, file.size() - 2);
        }
    }

    private static void recordComponents() {
        check.sentence("n components: U2 name, U2 type, looked at as a field's (INDEX, NAME, TYPE in this order)");
        for (int index : NO_ENTRIES) {
            FileBytes half = withList(FILE, "Record", 8, 1, index);
            check.dueRead("not before both are read", half, ClassFileReader.SHORT, half.size());
            FileBytes name = withList(FILE, "Record", 8, 1, index, index);
            check.dueRead("both " + index, name, ClassFileReader.INDEX, name.size() - 4);
            FileBytes type = withList(FILE, "Record", 8, 1, METHOD_TYPE, index);
            check.dueRead("type " + index, type, ClassFileReader.INDEX, type.size() - 2);
        }
        dueComponent("", "", ClassFileReader.NAME);
        dueComponent("a", "", ClassFileReader.TYPE);
        dueComponent("<init>", "I", ClassFileReader.NAME);
        dueComponent("<clinit>", "I", ClassFileReader.NAME);
        dueComponent("a", "()V", ClassFileReader.TYPE);
        dueComponent("a", "V", ClassFileReader.TYPE);
        dueComponent("a", "[".repeat(255) + "I", 0);
        dueComponent("a", "[".repeat(256) + "I", ClassFileReader.TYPE);
        check.dueSound("the same component 16 times", recordOf(16, 98));
    }

    private static void dueComponent(String name, String type, int code) {
        FileBytes file = FileBytes.start();
        int self = file.classOf("A");
        int nameText = file.text(name);
        int typeText = file.text(type);
        int record = file.text("Record");
        file.endPool().header(33, self, 0);
        file.u2(0);
        file.u2(0);
        file.u2(1);
        int place = file.attribute(record, 1, nameText, typeText, 0) + 8;
        int wrongPlace = code == 0 ? -1 : code == ClassFileReader.NAME ? place : place + 2;
        check.dueRead("component " + name + " " + type, file, code, wrongPlace);
    }

    private static void componentTables() {
        check.sentence("and an attribute table, that knows what all tables know");
        dueLength(COMPONENT, "Signature", 2);
        dueLength(COMPONENT, "Deprecated", 0);
        String[] unknown = {"ConstantValue", "Exceptions", "InnerClasses", "NestMembers", "PermittedSubclasses",
            "NestHost", "Record"};
        for (String name : unknown) {
            check.dueSound(name + " of no bytes", end(COMPONENT, withList(COMPONENT, name, 0)));
            check.dueSound(name + " of 65535", end(COMPONENT, withList(COMPONENT, name, 2, 65535)));
        }
    }

    private static void recordLengthBehind() {
        check.sentence("behind the last component LENGTH must be the number of bytes read of the content.");
        int[] numbers = {0, 1, 15, 16};
        for (int n : numbers) {
            long right = 2 + 6 * n;
            long[] wrong = {right - 1, right + 1, 2, right + 6, right + 256, right + 65536, right + 2147483648L,
                4294967295L};
            for (long length : wrong) {
                if (length >= 2 && length != right) {
                    FileBytes file = recordOf(n, length);
                    int place = file.size() - (int) right - 4;
                    check.dueRead(n + " components in " + length, file, ClassFileReader.LENGTH, place);
                }
            }
        }
        FileBytes early = withList(FILE, "Record", 2, 1, 0, TYPE, 0);
        check.dueRead("not before the last component", early, ClassFileReader.INDEX, early.size() - 6);
        FileBytes more = recordOf(1, 10);
        int place = more.size() - 12;
        more.u2(0);
        check.dueRead("LENGTH with the bytes behind it", more, ClassFileReader.LENGTH, place);
    }
}
