/**
 * The boundary cases of "Terms" from the flags to the methods, and of names, types and flags: for each
 * sentence that names one, a test of its own.
 */
public final class MemberBoundaryTest {
    private static final Check check = new Check();

    private static final int FIELD = 0;
    private static final int METHOD = 1;
    private static final int IN_CLASS = 33;
    private static final int IN_INTERFACE = 1536;
    private static final int[] NO_ENTRIES = {0, 14, 15, 63, 64, 65, 256, 32768, 65535};

    private static final int SELF = 2;
    private static final int ARRAY = 4;
    private static final int F = 5;
    private static final int INT_TYPE = 6;
    private static final int VOID_TYPE = 7;
    private static final int INIT = 8;
    private static final int CLINIT = 9;
    private static final int EMPTY = 10;
    private static final int SAME_AS_SELF = 12;
    private static final int F_AGAIN = 13;

    public static void main(String[] args) {
        fileFlagsAtOnce();
        thisMustNameAClass();
        superMayBeZero();
        thisHasAClassName();
        noInterfaces();
        manyInterfaces();
        interfacesAsThis();
        interfacesTwice();
        counts();
        lookedAtWhenTheThreeAreRead();
        memberIndexes();
        memberNames();
        memberTypes();
        memberFlagsAtThem();
        membersTwice();
        lastMemberTwice();
        rest();
        classNames();
        fieldTypes();
        arrayNames();
        methodTypes();
        nameCharacters();
        interfaceFlags();
        classFlags();
        fieldFlags();
        interfaceFieldFlags();
        methodReach();
        abstractMethods();
        initFlags();
        interfaceMethodFlags();
        clinitFlags();
        check.end();
    }

    /** A file up to its header; N is 14. */
    private static FileBytes pool() {
        FileBytes file = FileBytes.start();
        file.classOf("A");
        file.classOf("[I");
        file.text("f");
        file.text("I");
        file.text("()V");
        file.text("<init>");
        file.text("<clinit>");
        file.text("");
        file.classOf("A");
        file.text("f");
        return file.endPool();
    }

    private static FileBytes head(int flags) {
        FileBytes file = pool();
        file.header(flags, SELF, 0);
        return file;
    }

    /** A file up to the count of the fields (kind 0) or methods (1). */
    private static FileBytes upTo(int kind, int flags) {
        FileBytes file = head(flags);
        if (kind == METHOD) {
            file.u2(0);
        }
        return file;
    }

    private static FileBytes end(int kind, FileBytes file) {
        file.u2(0);
        if (kind == FIELD) {
            file.u2(0);
        }
        return file;
    }

    private static int typeOf(int kind) {
        return kind == FIELD ? INT_TYPE : VOID_TYPE;
    }

    private static void due(String what, FileBytes file, boolean fits, int code, int place) {
        check.dueRead(what, file, fits ? 0 : code, fits ? -1 : place);
    }

    private static void fileFlagsAtOnce() {
        check.sentence("U2 FLAGS, looked at at once (FLAGS at it).");
        FileBytes file = pool();
        int place = file.u2(512);
        check.dueRead("the flags alone", file, ClassFileReader.FLAGS, place);
        file.set2(place, 65535);
        check.dueRead("all flags", file, ClassFileReader.FLAGS, place);
        file.set2(place, 0);
        check.dueRead("no flags", file, ClassFileReader.SHORT, place + 2);
    }

    private static void thisMustNameAClass() {
        check.sentence("U2 THIS and U2 SUPER, each looked at when it is read: must name a CLASS ..., else INDEX at it");
        for (int index : NO_ENTRIES) {
            FileBytes file = pool();
            file.u2(IN_CLASS);
            int place = file.u2(index);
            check.dueRead("THIS " + index, file, ClassFileReader.INDEX, place);
        }
        for (int index : NO_ENTRIES) {
            FileBytes file = pool();
            file.u2(IN_CLASS);
            file.u2(SELF);
            int place = file.u2(index);
            due("SUPER " + index, file, false, index == 0 ? ClassFileReader.SHORT : ClassFileReader.INDEX,
                index == 0 ? file.size() : place);
        }
    }

    private static void superMayBeZero() {
        check.sentence("(SUPER may be 0)");
        FileBytes file = pool();
        int place = file.header(IN_CLASS, SELF, 0);
        file.endEmpty();
        check.dueSound("SUPER 0", file);
        file.set2(place + 2, 0);
        check.dueRead("THIS 0", file, ClassFileReader.INDEX, place + 2);
        file.set2(place + 2, SELF);
        file.set2(place + 4, SELF);
        check.dueSound("SUPER the same as THIS", file);
    }

    private static void thisHasAClassName() {
        check.sentence("with a CLASS NAME, else NAME at it.");
        FileBytes file = pool();
        file.u2(IN_CLASS);
        int self = file.u2(ARRAY);
        check.dueRead("THIS an array", file, ClassFileReader.NAME, self);
        file.set2(self, SELF);
        int parent = file.u2(ARRAY);
        check.dueRead("SUPER an array", file, ClassFileReader.NAME, parent);
    }

    private static void noInterfaces() {
        check.sentence("U2 count and so many U2 INTERFACES: none, or more than there are bytes");
        check.dueSound("none", head(IN_CLASS).endEmpty());
        int[] large = {1, 2, 16, 17, 255, 256, 32768, 65535};
        for (int count : large) {
            FileBytes file = head(IN_CLASS);
            file.set2(file.size() - 2, count);
            check.dueRead(count + " interfaces, no bytes", file, ClassFileReader.SHORT, file.size());
        }
    }

    private static void manyInterfaces() {
        check.sentence("so many U2 INTERFACES: as many as the bytes and the pool allow");
        FileBytes file = FileBytes.start();
        int[] classes = new int[31];
        for (int i = 0; i < 31; i++) {
            classes[i] = file.classOf("" + (char) ('A' + i % 26) + i / 26);
        }
        check.due("the last index", classes[30], 62);
        file.endPool().header(IN_CLASS, classes[0], 0, classes);
        file.endEmpty();
        ClassFileReader x = file.reader();
        check.dueRead("31 interfaces", x, 0, -1);
        check.due("number(3)", x.number(3), 31);
        check.dueText(x, 2, 0, "A0");
        check.dueText(x, 2, 30, "E1");
        check.dueText(x, 2, 31, null);
        int last = file.size() - 8;
        file.set2(last, classes[0]);
        check.dueRead("the last with the name of the first", file, ClassFileReader.TWICE, last);
    }

    private static void interfacesAsThis() {
        check.sentence("INTERFACES, each as THIS");
        for (int index : NO_ENTRIES) {
            FileBytes file = pool();
            int place = file.header(IN_CLASS, SELF, 0, SELF, index) + 10;
            check.dueRead("interface " + index, file, ClassFileReader.INDEX, place);
        }
        FileBytes array = pool();
        int place = array.header(IN_CLASS, SELF, 0, ARRAY) + 8;
        check.dueRead("an array", array, ClassFileReader.NAME, place);
    }

    private static void interfacesTwice() {
        check.sentence("and none with the name of an earlier one, else TWICE at it.");
        int[] others = {SELF, SAME_AS_SELF};
        for (int other : others) {
            FileBytes file = pool();
            int place = file.header(IN_CLASS, SELF, 0, SELF, other) + 10;
            check.dueRead("the same name by " + other, file, ClassFileReader.TWICE, place);
        }
        FileBytes once = pool();
        once.header(IN_CLASS, SELF, SELF, SAME_AS_SELF);
        check.dueSound("the name of THIS and SUPER", once.endEmpty());
    }

    private static void counts() {
        check.sentence("U2 count and so many FIELDS, ... METHODS; at most 16 of each: else COUNT at the count.");
        for (int kind = FIELD; kind <= METHOD; kind++) {
            int[] wrong = {17, 18, 255, 256, 32768, 65535};
            for (int count : wrong) {
                FileBytes file = upTo(kind, IN_CLASS);
                int place = file.u2(count);
                check.dueRead(count + " of kind " + kind, file, ClassFileReader.COUNT, place);
                file.member(0, F, typeOf(kind), 0);
                check.dueRead(count + " of kind " + kind + " with one", file, ClassFileReader.COUNT, place);
            }
            int[] right = {0, 1, 15, 16};
            for (int count : right) {
                ClassFileReader x = membersOf(kind, count).reader();
                check.dueRead(count + " of kind " + kind, x, 0, -1);
                check.due("how many", x.number(4 + kind), count);
                check.due("how many of the others", x.number(5 - kind), 0);
            }
        }
    }

    /** A file with so many fields or methods, all of other names. */
    private static FileBytes membersOf(int kind, int count) {
        FileBytes file = FileBytes.start();
        int self = file.classOf("A");
        int type = file.text(kind == FIELD ? "I" : "()V");
        for (int k = 0; k < count; k++) {
            file.text("" + (char) ('a' + k));
        }
        file.endPool().header(IN_CLASS, self, 0);
        if (kind == METHOD) {
            file.u2(0);
        }
        file.u2(count);
        for (int k = 0; k < count; k++) {
            file.member(0, type + 1 + k, type, 0);
        }
        return end(kind, file);
    }

    private static void lookedAtWhenTheThreeAreRead() {
        check.sentence("When the three are read: ...");
        for (int kind = FIELD; kind <= METHOD; kind++) {
            FileBytes file = upTo(kind, IN_CLASS);
            file.u2(1);
            int place = file.u2(7);
            check.dueRead("wrong flags alone", file, ClassFileReader.SHORT, place + 2);
            file.u2(0);
            check.dueRead("and a wrong name", file, ClassFileReader.SHORT, place + 4);
            file.u1(0);
            check.dueRead("and half a type", file, ClassFileReader.SHORT, place + 5);
            file.u1(0);
            check.dueRead("and a wrong type", file, ClassFileReader.INDEX, place + 2);
        }
    }

    private static FileBytes one(int kind, int fileFlags, int flags, int name, int type) {
        FileBytes file = upTo(kind, fileFlags);
        file.u2(1);
        file.member(flags, name, type, 0);
        return end(kind, file);
    }

    private static int placeOfOne(int kind) {
        return upTo(kind, IN_CLASS).size() + 2;
    }

    private static void memberIndexes() {
        check.sentence("name and type must name TEXTs, else INDEX at it (the name first)");
        for (int kind = FIELD; kind <= METHOD; kind++) {
            int place = placeOfOne(kind);
            for (int index : NO_ENTRIES) {
                check.dueRead("both " + index, one(kind, IN_CLASS, 7, index, index), ClassFileReader.INDEX, place + 2);
                check.dueRead("type " + index, one(kind, IN_CLASS, 7, EMPTY, index), ClassFileReader.INDEX, place + 4);
            }
        }
    }

    private static void memberNames() {
        check.sentence("the name is a MEMBER NAME, or for a method <init> or <clinit>, else NAME at it");
        for (int kind = FIELD; kind <= METHOD; kind++) {
            int place = placeOfOne(kind);
            check.dueRead("no name", one(kind, IN_CLASS, 7, EMPTY, EMPTY), ClassFileReader.NAME, place + 2);
            boolean fits = kind == METHOD;
            due("<init>", one(kind, IN_CLASS, 0, INIT, typeOf(kind)), fits, ClassFileReader.NAME, place + 2);
            due("<clinit>", one(kind, IN_CLASS, 0, CLINIT, typeOf(kind)), fits, ClassFileReader.NAME, place + 2);
        }
    }

    private static void memberTypes() {
        check.sentence("the type a FIELD TYPE for a field, a METHOD TYPE for a method, else TYPE at it");
        for (int kind = FIELD; kind <= METHOD; kind++) {
            int place = placeOfOne(kind);
            check.dueSound("its type", one(kind, IN_CLASS, 0, F, typeOf(kind)));
            check.dueRead("no type", one(kind, IN_CLASS, 7, F, EMPTY), ClassFileReader.TYPE, place + 4);
            check.dueRead("the others'", one(kind, IN_CLASS, 7, F, typeOf(1 - kind)), ClassFileReader.TYPE, place + 4);
        }
    }

    private static void memberFlagsAtThem() {
        check.sentence("the flags, else FLAGS at them");
        for (int kind = FIELD; kind <= METHOD; kind++) {
            int place = placeOfOne(kind);
            check.dueRead("65535", one(kind, IN_CLASS, 65535, F, typeOf(kind)), ClassFileReader.FLAGS, place);
            check.dueSound("0", one(kind, IN_CLASS, 0, F, typeOf(kind)));
        }
    }

    private static void membersTwice() {
        check.sentence("no earlier field (method) has the same name and type, else TWICE at the flags.");
        for (int kind = FIELD; kind <= METHOD; kind++) {
            FileBytes file = upTo(kind, IN_CLASS);
            file.u2(2);
            file.member(1, F, typeOf(kind), 0);
            int place = file.u2(2);
            file.u2(F_AGAIN);
            file.u2(typeOf(kind));
            check.dueRead("the same by another text", file, ClassFileReader.TWICE, place);
            file.set2(place, 3);
            check.dueRead("and wrong flags", file, ClassFileReader.FLAGS, place);
        }
        FileBytes both = head(IN_CLASS);
        both.u2(1);
        both.member(0, F, INT_TYPE, 0);
        both.u2(1);
        both.member(0, F, VOID_TYPE, 0);
        both.u2(0);
        check.dueSound("a field and a method of one name", both);
    }

    private static void lastMemberTwice() {
        check.sentence("no earlier field (method): of 16, each against each");
        for (int kind = FIELD; kind <= METHOD; kind++) {
            for (int k = 1; k < 16; k++) {
                FileBytes file = membersOf(kind, 16);
                int first = file.size() - (kind == FIELD ? 4 : 2) - 16 * 8;
                int nameOfFirst = 4;
                for (int j = 0; j < k; j++) {
                    file.set2(first + 8 * k + 2, nameOfFirst + j);
                    check.dueRead(k + " as " + j, file, ClassFileReader.TWICE, first + 8 * k);
                }
                file.set2(first + 8 * k + 2, nameOfFirst + k);
                check.dueSound("as itself", file);
            }
        }
    }

    private static void rest() {
        check.sentence("Bytes behind it: REST at the first.");
        for (int size = 41; size < 480; size += size == 41 || size == 478 ? 1 : 109) {
            FileBytes file = FileBytes.filledTo(size);
            check.dueSound("no byte behind it", file);
            file.u1(0);
            check.dueRead("a byte behind it", file, ClassFileReader.REST, size);
            while (file.size() < 480) {
                file.u1(255);
            }
            check.dueRead("all the rest", file, ClassFileReader.REST, size);
        }
        check.dueSound("no room for a rest", FileBytes.filledTo(480));
    }

    private static void dueName(String name, boolean fits) {
        FileBytes file = FileBytes.start();
        int self = file.classOf("A");
        int place = file.placeOf(file.classOf(name));
        due("class " + name, file.endBare(self), fits, ClassFileReader.NAME, place);
    }

    private static void dueType(int kind, String type, boolean fits) {
        FileBytes file = FileBytes.start();
        int self = file.classOf("A");
        int name = file.text("f");
        int text = file.text(type);
        file.endPool().header(IN_CLASS, self, 0);
        if (kind == METHOD) {
            file.u2(0);
        }
        file.u2(1);
        int place = file.member(0, name, text, 0) + 4;
        due("type " + type, end(kind, file), fits, ClassFileReader.TYPE, place);
    }

    private static void classNames() {
        check.sentence("CLASS NAME: one or more parts with / between them; a part is one or more characters");
        dueName("", false);
        dueName("a", true);
        dueName("ab", true);
        dueName("/", false);
        dueName("a/", false);
        dueName("/a", false);
        dueName("a/b", true);
        dueName("a//b", false);
        dueName("a/b/", false);
        dueName("a/b/c", true);
        dueName("//", false);
        dueName("a/".repeat(150) + "b", true);
        check.sentence("characters other than . ; [ /");
        for (int c = 1; c <= 127; c++) {
            boolean fits = c != '.' && c != ';' && c != '[' && c != '/';
            dueName("" + (char) c, fits);
            dueName("a" + (char) c, fits);
            dueName((char) c + "a", fits);
            dueName("a/" + (char) c, fits);
            dueName((char) c + "/a", fits);
        }
    }

    private static void fieldTypes() {
        check.sentence("FIELD TYPE: 0 to 255 times [ and then one of B C D F I J S Z, or L, a CLASS NAME, and ;");
        int[] dimensions = {0, 1, 2, 254, 255};
        for (int d : dimensions) {
            for (int c = 1; c <= 127; c++) {
                dueType(FIELD, "[".repeat(d) + (char) c, "BCDFIJSZ".indexOf(c) >= 0);
            }
            dueType(FIELD, "[".repeat(d), false);
            dueType(FIELD, "[".repeat(d) + "La;", true);
            dueType(FIELD, "[".repeat(d) + "L;", false);
            dueType(FIELD, "[".repeat(d) + "La", false);
            dueType(FIELD, "[".repeat(d) + "La/;", false);
            dueType(FIELD, "[".repeat(d) + "La;;", false);
            dueType(FIELD, "[".repeat(d) + "II", false);
        }
        int[] tooMany = {256, 257, 300, 400};
        for (int d : tooMany) {
            dueType(FIELD, "[".repeat(d) + "I", false);
            dueType(FIELD, "[".repeat(d) + "La;", false);
        }
    }

    private static void arrayNames() {
        check.sentence("ARRAY NAME: a FIELD TYPE that begins with [ .");
        dueName("[", false);
        dueName("[I", true);
        dueName("I", true);
        dueName("La;", false);
        dueName("[La;", true);
        dueName("[a", false);
        dueName("[()V", false);
        dueName("[V", false);
        dueName("[".repeat(255) + "Z", true);
        dueName("[".repeat(256) + "Z", false);
    }

    private static void methodTypes() {
        check.sentence("METHOD TYPE: ( , FIELD TYPEs or none, ) , and a FIELD TYPE or V .");
        String most = "[".repeat(255);
        String[] right = {"()V", "()I", "(I)V", "(La;)La;", "(" + "J".repeat(300) + ")V", "(" + most + "I" + "[I)V",
            "()" + most + "I", "(" + "[I".repeat(130) + ")[I"};
        for (String type : right) {
            dueType(METHOD, type, true);
        }
        String[] wrong = {"", "(", ")", "()", "(I)", "(I", "(V)V", "()VV", "()II", "([)V", "()[", "()[V",
            "(" + most + "[I)V", "()" + most + "[I", "(" + most + ")V", "(I" + most + "[I)V"};
        for (String type : wrong) {
            dueType(METHOD, type, false);
        }
    }

    private static void nameCharacters() {
        check.sentence("MEMBER NAME: one or more characters other than . ; [ / < > .");
        for (int kind = FIELD; kind <= METHOD; kind++) {
            dueMember(kind, "", false);
            dueMember(kind, "m".repeat(400), true);
            for (int c = 1; c <= 127; c++) {
                boolean fits = c != '.' && c != ';' && c != '[' && c != '/' && c != '<' && c != '>';
                dueMember(kind, "" + (char) c, fits);
                dueMember(kind, "a" + (char) c, fits);
                dueMember(kind, (char) c + "a", fits);
            }
        }
    }

    private static void dueMember(int kind, String name, boolean fits) {
        FileBytes file = FileBytes.start();
        int self = file.classOf("A");
        int text = file.text(name);
        int type = file.text(kind == FIELD ? "I" : "()V");
        file.endPool().header(IN_CLASS, self, 0);
        if (kind == METHOD) {
            file.u2(0);
        }
        file.u2(1);
        int place = file.member(0, text, type, 0) + 2;
        due("name " + name, end(kind, file), fits, ClassFileReader.NAME, place);
    }

    private static void dueFileFlags(int flags, boolean fits) {
        FileBytes file = pool();
        int place = file.header(flags, SELF, 0);
        due("flags " + flags, file.endEmpty(), fits, ClassFileReader.FLAGS, place);
    }

    private static void interfaceFlags() {
        check.sentence("with 512 (INTERFACE) there must be 1024 (ABSTRACT) and none of 16, 32, 16384");
        dueFileFlags(512, false);
        dueFileFlags(512 + 1024, true);
        dueFileFlags(65535 - 16 - 32 - 16384, true);
        dueFileFlags(65535 - 16 - 32 - 16384 - 1024, false);
        int[] wrong = {16, 32, 16384};
        for (int bit : wrong) {
            dueFileFlags(512 + 1024 + bit, false);
        }
        for (int bit = 1; bit <= 32768; bit *= 2) {
            boolean fits = bit != 16 && bit != 32 && bit != 16384;
            dueFileFlags(512 | 1024 | bit, fits);
        }
    }

    private static void classFlags() {
        check.sentence("without it not both 16 and 1024, and not 8192.");
        dueFileFlags(0, true);
        dueFileFlags(16 + 1024, false);
        dueFileFlags(8192, false);
        dueFileFlags(65535 - 512 - 8192 - 16, true);
        dueFileFlags(65535 - 512 - 8192 - 1024, true);
        dueFileFlags(65535 - 512 - 8192, false);
        for (int bit = 1; bit <= 32768; bit *= 2) {
            dueFileFlags(bit, bit != 512 && bit != 8192);
        }
    }

    private static void dueFlags(int kind, int fileFlags, int flags, int name, boolean fits) {
        FileBytes file = one(kind, fileFlags, flags, name, typeOf(kind));
        due("flags " + flags + " of " + kind, file, fits, ClassFileReader.FLAGS, placeOfOne(kind));
    }

    private static void fieldFlags() {
        check.sentence("Of a field: at most one of 1, 2, 4; not both 16 and 64");
        for (int reach = 0; reach < 8; reach++) {
            boolean fits = Integer.bitCount(reach) < 2;
            dueFlags(FIELD, IN_CLASS, reach, F, fits);
            dueFlags(FIELD, IN_CLASS, 65528 - 16 + reach, F, fits);
            dueFlags(FIELD, IN_CLASS, 65528 - 64 + reach, F, fits);
            dueFlags(FIELD, IN_CLASS, 65528 + reach, F, false);
            dueFlags(FIELD, IN_CLASS, 16 + 64 + reach, F, false);
        }
    }

    private static void interfaceFieldFlags() {
        check.sentence("of an interface's field 1, 8 and 16 must be there.");
        dueFlags(FIELD, IN_INTERFACE, 25, F, true);
        dueFlags(FIELD, IN_INTERFACE, 65535 - 2 - 4 - 64, F, true);
        dueFlags(FIELD, IN_INTERFACE, 0, F, false);
        int[] missing = {1, 8, 16};
        for (int bit : missing) {
            dueFlags(FIELD, IN_INTERFACE, 25 - bit, F, false);
            dueFlags(FIELD, IN_INTERFACE, 65535 - 2 - 4 - 64 - bit, F, false);
        }
        dueFlags(FIELD, IN_INTERFACE, 25 + 2, F, false);
        dueFlags(FIELD, IN_INTERFACE, 25 + 64, F, false);
    }

    private static void methodReach() {
        check.sentence("Of a method: at most one of 1, 2, 4");
        for (int reach = 0; reach < 8; reach++) {
            boolean fits = Integer.bitCount(reach) < 2;
            dueFlags(METHOD, IN_CLASS, reach, F, fits);
            dueFlags(METHOD, IN_CLASS, 65528 - 1024 + reach, F, fits);
            dueFlags(METHOD, IN_CLASS, reach, INIT, fits);
        }
    }

    private static void abstractMethods() {
        check.sentence("with 1024 none of 2, 8, 16, 32, 256");
        for (int bit = 1; bit <= 32768; bit *= 2) {
            boolean fits = bit != 2 && bit != 8 && bit != 16 && bit != 32 && bit != 256;
            dueFlags(METHOD, IN_CLASS, 1024 | bit, F, fits);
            dueFlags(METHOD, IN_CLASS, bit, F, true);
        }
        dueFlags(METHOD, IN_CLASS, 65535 - 1 - 2 - 8 - 16 - 32 - 256, F, true);
    }

    private static void initFlags() {
        check.sentence("<init> none of 8, 16, 32, 256, 1024");
        for (int bit = 1; bit <= 32768; bit *= 2) {
            boolean fits = bit != 8 && bit != 16 && bit != 32 && bit != 256 && bit != 1024;
            dueFlags(METHOD, IN_CLASS, bit, INIT, fits);
        }
        dueFlags(METHOD, IN_CLASS, 65535 - 6 - 8 - 16 - 32 - 256 - 1024, INIT, true);
        dueFlags(METHOD, IN_INTERFACE, 1 + 8, INIT, false);
    }

    private static void interfaceMethodFlags() {
        check.sentence("an interface's method, but <clinit>, just one of 1 and 2.");
        int[] names = {F, INIT};
        for (int name : names) {
            for (int reach = 0; reach < 8; reach++) {
                dueFlags(METHOD, IN_INTERFACE, reach, name, reach == 1 || reach == 2);
            }
        }
        dueFlags(METHOD, IN_INTERFACE, 0, CLINIT, true);
    }

    private static void clinitFlags() {
        check.sentence("For <clinit> flags are not looked at at all.");
        int[] any = {0, 3, 7, 1024 + 2, 1024 + 256, 65535};
        for (int flags : any) {
            dueFlags(METHOD, IN_CLASS, flags, CLINIT, true);
            dueFlags(METHOD, IN_INTERFACE, flags, CLINIT, true);
        }
    }
}
