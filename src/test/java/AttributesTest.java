/** Promise 5: attribute tables. */
public final class AttributesTest extends AttributeTables {
    private static final Check check = new Check();

    public static void main(String[] args) {
        names();
        unknown();
        singles();
        deprecated();
        twice();
        constantValues();
        lists();
        innerClasses();
        record();
        recordComponents();
        check.end();
    }

    private static void names() {
        for (int kind = FIELD; kind <= FILE; kind++) {
            int[] wrong = {0, SELF, WORD, 12, 64, 65535};
            for (int index : wrong) {
                FileBytes file = upTo(kind, "Code");
                file.u2(1);
                int place = file.u2(index);
                check.dueRead("an attribute named by " + index, file, ClassFileReader.INDEX, place);
            }
            FileBytes cut = upTo(kind, "Signature");
            cut.u2(2);
            cut.u2(ATTRIBUTE);
            cut.u2(0);
            check.dueRead("half a length", cut, ClassFileReader.SHORT, cut.size());
        }
    }

    private static boolean knows(int kind, String name) {
        switch (name) {
            case "Signature":
            case "Deprecated":
                return true;
            case "ConstantValue":
                return kind == FIELD;
            case "Exceptions":
                return kind == METHOD;
            case "InnerClasses":
            case "NestMembers":
            case "PermittedSubclasses":
            case "NestHost":
            case "Record":
                return kind == FILE;
            default:
                return false;
        }
    }

    /** What a table does not know is skipped whatever it holds, may come twice, and may have any length. */
    private static void unknown() {
        String[] names = {"Signature", "Deprecated", "ConstantValue", "Exceptions", "InnerClasses", "NestMembers",
            "PermittedSubclasses", "NestHost", "Record", "Code", "", "signature", "Signatur", "Signatures",
            "SourceFile"};
        for (int kind = FIELD; kind <= FILE; kind++) {
            for (String name : names) {
                FileBytes file = upTo(kind, name);
                file.u2(2);
                file.u2(ATTRIBUTE);
                int length = file.u4(1);
                file.u1(255);
                file.u2(ATTRIBUTE_AGAIN);
                file.u4(0);
                end(kind, file);
                // one byte is a length that no known attribute may have
                boolean known = knows(kind, name);
                int code = known ? ClassFileReader.LENGTH : 0;
                check.dueRead(name + " of a " + KINDS[kind], file, code, known ? length : -1);
            }
            long[] lengths = {2, 65536, 2147483647L, 2147483648L, 4294967295L};
            for (long length : lengths) {
                FileBytes file = upTo(kind, "Code");
                file.u2(1);
                file.u2(ATTRIBUTE);
                file.u4(length);
                file.u1(0);
                check.dueRead("skips " + length, file, ClassFileReader.SHORT, file.size());
            }
        }
    }

    private static void singles() {
        for (int kind = FIELD; kind <= FILE; kind++) {
            dueSingle(kind, "Signature", NAME, true);
            dueSingle(kind, "Signature", ATTRIBUTE, true);
            dueSingle(kind, "Signature", 0, false);
            dueSingle(kind, "Signature", SELF, false);
            dueSingle(kind, "Signature", WORD, false);
            dueSingle(kind, "Signature", 12, false);
        }
        dueSingle(FILE, "NestHost", SELF, true);
        dueSingle(FILE, "NestHost", ARRAY, true);
        dueSingle(FILE, "NestHost", NAME, false);
        dueSingle(FILE, "NestHost", 0, false);
        for (int kind = FIELD; kind <= FILE; kind++) {
            wrongLengths(kind, "Signature", 2);
        }
        wrongLengths(FILE, "NestHost", 2);
        wrongLengths(FIELD, "ConstantValue", 2);
    }

    private static void dueSingle(int kind, String name, int index, boolean fits) {
        FileBytes file = upTo(kind, name);
        file.u2(1);
        file.u2(ATTRIBUTE);
        file.u4(2);
        int place = file.u2(index);
        end(kind, file);
        String what = name + " of a " + KINDS[kind] + " names " + index;
        check.dueRead(what, file, fits ? 0 : ClassFileReader.INDEX, fits ? -1 : place);
    }

    /** LENGTH is looked at before the content is read. */
    private static void wrongLengths(int kind, String name, int right) {
        long[] lengths = {0, 1, 2, 3, 4, 65538, 2147483650L, 4294967294L, 4294967295L};
        for (long length : lengths) {
            FileBytes file = upTo(kind, name);
            file.u2(1);
            file.u2(ATTRIBUTE);
            int place = file.u4(length);
            if (length == right) {
                for (int have = 0; have < right; have++) {
                    check.dueRead(name + " cut short", file, ClassFileReader.SHORT, file.size());
                    file.u1(0);
                }
            } else {
                check.dueRead(name + " of length " + length, file, ClassFileReader.LENGTH, place);
            }
        }
    }

    private static void deprecated() {
        for (int kind = FIELD; kind <= FILE; kind++) {
            FileBytes file = upTo(kind, "Deprecated");
            file.u2(1);
            file.attribute(ATTRIBUTE);
            check.dueSound("Deprecated of a " + KINDS[kind], end(kind, file));
            long[] wrong = {1, 2, 65536, 4294967295L};
            for (long length : wrong) {
                FileBytes longer = upTo(kind, "Deprecated");
                longer.u2(1);
                longer.u2(ATTRIBUTE);
                int place = longer.u4(length);
                check.dueRead("Deprecated of " + length, longer, ClassFileReader.LENGTH, place);
            }
        }
    }

    private static void twice() {
        for (int kind = FIELD; kind <= FILE; kind++) {
            for (int name = ATTRIBUTE; name <= ATTRIBUTE_AGAIN; name++) {
                FileBytes file = upTo(kind, "Deprecated");
                file.u2(2);
                file.attribute(ATTRIBUTE);
                int place = file.u2(name);
                file.u2(0);
                check.dueRead("not looked at before LENGTH", file, ClassFileReader.SHORT, file.size());
                file.u2(1);
                check.dueRead("TWICE before LENGTH", file, ClassFileReader.TWICE, place);
            }
            FileBytes file = upTo(kind, "Signature");
            file.u2(2);
            file.attribute(ATTRIBUTE, NAME);
            int place = file.u2(ATTRIBUTE);
            file.u4(2);
            check.dueRead("TWICE before the content", file, ClassFileReader.TWICE, place);
        }
        String[] others = {"InnerClasses", "NestMembers", "PermittedSubclasses", "Record"};
        for (String name : others) {
            FileBytes file = upTo(FILE, name);
            file.u2(2);
            file.attribute(ATTRIBUTE, 0);
            int place = file.attribute(ATTRIBUTE_AGAIN, 0);
            check.dueRead(name + " twice", file, ClassFileReader.TWICE, place);
        }
        FileBytes both = upTo(FIELD, "Deprecated");
        both.u2(1);
        both.attribute(ATTRIBUTE);
        both.u2(1);
        both.member(0, NAME, METHOD_TYPE, 1);
        both.attribute(ATTRIBUTE);
        both.u2(1);
        both.attribute(ATTRIBUTE_AGAIN);
        check.dueSound("once in each table", both);
    }

    private static void constantValues() {
        String[] types = {"I", "S", "C", "B", "Z", "F", "J", "D", "Ljava/lang/String;", "[I", "Ljava/lang/Object;",
            "LI;", "[Ljava/lang/String;", "Ljava/lang/Strinh;"};
        int[] tags = {3, 3, 3, 3, 3, 4, 5, 6, 8, -1, -1, -1, -1, -1};
        for (int t = 0; t < types.length; t++) {
            FileBytes file = FileBytes.start();
            int self = file.classOf("A");
            int name = file.text("f");
            int type = file.text(types[t]);
            int attribute = file.text("ConstantValue");
            int[] entries = {self, name, file.word(FileBytes.INT, 1), file.word(FileBytes.FLOAT, 1),
                file.wide(FileBytes.LONG, 1), file.wide(FileBytes.DOUBLE, 1), file.one(FileBytes.STRING, 1), 0, 64};
            int[] entryTags = {7, 1, 3, 4, 5, 6, 8, 0, 0};
            file.endPool().header(33, self, 0);
            file.u2(1);
            file.member(0, name, type, 1);
            int place = file.attribute(attribute, 0) + 6;
            file.u2(0);
            file.u2(0);
            for (int i = 0; i < entries.length; i++) {
                file.set2(place, entries[i]);
                boolean fits = tags[t] == entryTags[i];
                String what = types[t] + " with an entry " + entryTags[i];
                check.dueRead(what, file, fits ? 0 : ClassFileReader.INDEX, fits ? -1 : place);
            }
            file.set2(place, entries[4] + 1);
            check.dueRead(types[t] + " with a second index", file, ClassFileReader.INDEX, place);
        }
    }

    private static void lists() {
        dueList(METHOD, "Exceptions");
        dueList(FILE, "NestMembers");
        dueList(FILE, "PermittedSubclasses");
    }

    private static void dueList(int kind, String name) {
        check.dueSound("an empty " + name, end(kind, withList(kind, name, 2, 0)));
        check.dueSound("one in " + name, end(kind, withList(kind, name, 4, 1, SELF)));
        check.dueSound("the same twice in " + name, end(kind, withList(kind, name, 8, 3, SELF, ARRAY, SELF)));
        int length = upTo(kind, name).size() + 4;
        check.dueRead("less than a count", withList(kind, name, 1), ClassFileReader.LENGTH, length);
        check.dueRead("no length", withList(kind, name, 0), ClassFileReader.LENGTH, length);
        check.dueRead("no count", withList(kind, name, 4294967295L), ClassFileReader.SHORT, length + 4);
        check.dueRead("too little", withList(kind, name, 2, 1), ClassFileReader.LENGTH, length);
        check.dueRead("odd", withList(kind, name, 5, 1, SELF), ClassFileReader.LENGTH, length);
        check.dueRead("too much", withList(kind, name, 6, 1, SELF, SELF), ClassFileReader.LENGTH, length);
        check.dueRead("LENGTH before INDEX", withList(kind, name, 6, 1, 0), ClassFileReader.LENGTH, length);
        check.dueRead("too much by 2^32", withList(kind, name, 4294967295L, 1, SELF), ClassFileReader.LENGTH, length);
        check.dueRead("a short list", withList(kind, name, 131072, 65535), ClassFileReader.SHORT, length + 6);
        check.dueRead("a list cut off", withList(kind, name, 6, 2, SELF), ClassFileReader.SHORT, length + 8);
        int[] noClass = {0, NAME, WORD, 12, 65535};
        for (int index : noClass) {
            FileBytes file = withList(kind, name, 6, 2, SELF, index);
            check.dueRead(name + " of " + index, file, ClassFileReader.INDEX, length + 8);
        }
    }

    private static void innerClasses() {
        String name = "InnerClasses";
        int length = upTo(FILE, name).size() + 4;
        check.dueSound("no inner class", withList(FILE, name, 2, 0));
        check.dueSound("all there", withList(FILE, name, 10, 1, SELF, ARRAY, NAME, 65535));
        check.dueSound("without outer and simple name", withList(FILE, name, 10, 1, SELF, 0, 0, 0));
        check.dueSound("two", withList(FILE, name, 18, 2, SELF, SELF, 0, 0, SELF, 0, NAME, 7));
        check.dueRead("size 2", withList(FILE, name, 4, 1, SELF), ClassFileReader.LENGTH, length);
        check.dueRead("size 6", withList(FILE, name, 8, 1, SELF, 0, 0), ClassFileReader.LENGTH, length);
        check.dueRead("length 1", withList(FILE, name, 1), ClassFileReader.LENGTH, length);
        check.dueRead("n 8192", withList(FILE, name, 65538, 8192), ClassFileReader.SHORT, length + 6);
        int[][] wrong = {{0, 0, 0, 0}, {NAME, 0, 0, 0}, {SELF, NAME, 0, 0}, {SELF, WORD, 0, 0}, {SELF, 12, 0, 0},
            {SELF, 0, SELF, 0}, {SELF, SELF, 65535, 0}, {WORD, NAME, SELF, 0}, {SELF, NAME, SELF, 0}};
        int[] items = {0, 0, 1, 1, 1, 2, 2, 0, 1};
        for (int i = 0; i < wrong.length; i++) {
            int[] w = wrong[i];
            FileBytes file = withList(FILE, name, 18, 2, SELF, 0, 0, 0, w[0], w[1], w[2], w[3]);
            check.dueRead("wrong inner class " + i, file, ClassFileReader.INDEX, length + 14 + 2 * items[i]);
        }
        check.dueRead("looked at when read", withList(FILE, name, 10, 1, NAME), ClassFileReader.INDEX, length + 6);
        check.dueRead("cut", withList(FILE, name, 10, 1, SELF, 0, 0), ClassFileReader.SHORT, length + 12);
    }

    private static void record() {
        int length = upTo(FILE, "Record").size() + 4;
        check.dueSound("no components", withList(FILE, "Record", 2, 0));
        check.dueSound("a component", withList(FILE, "Record", 8, 1, NAME, TYPE, 0));
        check.dueSound("the same twice", withList(FILE, "Record", 14, 2, NAME, TYPE, 0, NAME, TYPE, 0));
        check.dueRead("length 1", withList(FILE, "Record", 1), ClassFileReader.LENGTH, length);
        check.dueRead("no count", withList(FILE, "Record", 2), ClassFileReader.SHORT, length + 4);
        check.dueRead("17", withList(FILE, "Record", 2, 17), ClassFileReader.COUNT, length + 4);
        check.dueRead("65535", withList(FILE, "Record", 2, 65535), ClassFileReader.COUNT, length + 4);
        check.dueRead("16, cut", withList(FILE, "Record", 2, 16), ClassFileReader.SHORT, length + 6);
        long[] wrong = {2, 7, 9, 65544, 2147483648L + 8, 4294967295L};
        for (long other : wrong) {
            FileBytes file = withList(FILE, "Record", other, 1, NAME, TYPE, 0);
            check.dueRead("a Record of " + other, file, ClassFileReader.LENGTH, length);
        }
        check.dueRead("more than it has", withList(FILE, "Record", 3, 0, 0), ClassFileReader.LENGTH, length);
        int[] sixteen = new int[49];
        for (int i = 0; i < 16; i++) {
            sixteen[1 + 3 * i] = NAME;
            sixteen[2 + 3 * i] = TYPE;
        }
        sixteen[0] = 16;
        check.dueSound("16 components", withList(FILE, "Record", 98, sixteen));
    }

    private static void recordComponents() {
        int first = upTo(FILE, "Record").size() + 10;
        dueComponent("all wrong", SELF, SELF, ClassFileReader.INDEX, first);
        dueComponent("no name", 0, TYPE, ClassFileReader.INDEX, first);
        dueComponent("no type", NAME, WORD, ClassFileReader.INDEX, first + 2);
        dueComponent("INDEX before NAME", RECORD, 64, ClassFileReader.INDEX, first + 2);
        dueComponent("a method's type", NAME, METHOD_TYPE, ClassFileReader.TYPE, first + 2);
        dueComponent("a name that is none", METHOD_TYPE, NAME, ClassFileReader.TYPE, first + 2);
        FileBytes named = FileBytes.start();
        int self = named.classOf("A");
        int record = named.text("Record");
        int init = named.text("<init>");
        named.endPool().header(33, self, 0);
        named.u2(0);
        named.u2(0);
        named.u2(1);
        int place = named.attribute(record, 1, init, init, 0) + 8;
        check.dueRead("NAME before TYPE", named, ClassFileReader.NAME, place);
        FileBytes cut = withList(FILE, "Record", 100, 1, 0);
        check.dueRead("not looked at before both are read", cut, ClassFileReader.SHORT, cut.size());
        FileBytes nested = upTo(COMPONENT, "Record");
        nested.u2(1);
        nested.attribute(ATTRIBUTE, 9, 9, 9);
        check.dueSound("a Record in a component is skipped", end(COMPONENT, nested));
        FileBytes over = withList(FILE, "Record", 8, 1, NAME, TYPE, 1, NAME);
        over.u4(3);
        over.u2(0);
        check.dueRead("SHORT in a component before LENGTH", over, ClassFileReader.SHORT, over.size());
        over.u1(0);
        check.dueRead("LENGTH behind the last component", over, ClassFileReader.LENGTH, first - 6);
    }

    private static void dueComponent(String what, int name, int type, int code, int place) {
        FileBytes file = withList(FILE, "Record", 8, 1, name, type);
        check.dueRead("component: " + what, file, code, place);
    }
}
