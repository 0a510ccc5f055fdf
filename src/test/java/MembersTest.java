/** Promise 5: fields and methods. */
public final class MembersTest {
    private static final Check check = new Check();

    private static final int SELF = 2;
    private static final int F = 3;
    private static final int INT_TYPE = 4;
    private static final int VOID_TYPE = 5;
    private static final int INIT = 6;
    private static final int CLINIT = 7;
    private static final int F_AGAIN = 8;
    private static final int LONG_TYPE = 9;
    private static final int INT_AGAIN = 10;
    private static final int DOTTED = 11;
    private static final int VOID_AGAIN = 12;
    private static final int IN_CLASS = 33;
    private static final int IN_INTERFACE = 1536;

    public static void main(String[] args) {
        counts();
        fieldOrder();
        methodOrder();
        fieldFlags();
        methodFlags();
        namedFlags();
        twice();
        shortMembers();
        check.end();
    }

    private static FileBytes head(int flags) {
        FileBytes file = FileBytes.start();
        file.classOf("A");
        file.text("f");
        file.text("I");
        file.text("()V");
        file.text("<init>");
        file.text("<clinit>");
        file.text("f");
        file.text("J");
        file.text("I");
        file.text("a.b");
        file.text("()V");
        file.endPool().header(flags, SELF, 0);
        return file;
    }

    private static void counts() {
        for (int kind = 0; kind < 2; kind++) {
            int[] wrong = {17, 256, 65535};
            for (int count : wrong) {
                FileBytes file = head(IN_CLASS);
                if (kind == 1) {
                    file.u2(0);
                }
                int place = file.u2(count);
                check.dueRead("count " + count + " of kind " + kind, file, ClassFileReader.COUNT, place);
            }
            FileBytes cut = head(IN_CLASS);
            if (kind == 1) {
                cut.u2(0);
            }
            cut.u2(16);
            check.dueRead("16 of kind " + kind, cut, ClassFileReader.SHORT, cut.size());
        }
        check.dueSound("16 fields and 16 methods", sixteen());
        ClassFileReader x = sixteen().reader();
        x.read();
        check.due("fields", x.number(4), 16);
        check.due("methods", x.number(5), 16);
        check.due("flags of the last field", x.flags(0, 15), 2);
        check.due("flags of the last method", x.flags(1, 15), 4);
        check.dueText(x, 3, 15, "p");
        check.dueText(x, 5, 15, "p");
        check.dueText(x, 5, 16, null);
    }

    private static FileBytes sixteen() {
        FileBytes file = FileBytes.start();
        int self = file.classOf("A");
        int type = file.text("I");
        int methodType = file.text("()V");
        int[] names = new int[16];
        for (int i = 0; i < 16; i++) {
            names[i] = file.text("" + (char) ('a' + i));
        }
        file.endPool().header(IN_CLASS, self, 0);
        file.u2(16);
        for (int name : names) {
            file.member(2, name, type, 0);
        }
        file.u2(16);
        for (int name : names) {
            file.member(4, name, methodType, 0);
        }
        file.u2(0);
        return file;
    }

    private static void fieldOrder() {
        due("field", 0, 1, F, INT_TYPE, 0, 0);
        due("all wrong", 0, 7, SELF, SELF, ClassFileReader.INDEX, 2);
        due("type and flags wrong", 0, 7, F, SELF, ClassFileReader.INDEX, 4);
        due("INDEX of the type before NAME", 0, 7, DOTTED, 0, ClassFileReader.INDEX, 4);
        due("NAME before TYPE", 0, 7, DOTTED, VOID_TYPE, ClassFileReader.NAME, 2);
        due("TYPE before FLAGS", 0, 7, F, VOID_TYPE, ClassFileReader.TYPE, 4);
        due("FLAGS", 0, 7, F, INT_TYPE, ClassFileReader.FLAGS, 0);
        int[] wrong = {0, SELF, 13, 64, 65535};
        for (int index : wrong) {
            due("name " + index, 0, 1, index, INT_TYPE, ClassFileReader.INDEX, 2);
            due("type " + index, 0, 1, F, index, ClassFileReader.INDEX, 4);
        }
    }

    private static void methodOrder() {
        due("method", 1, 1, F, VOID_TYPE, 0, 0);
        due("all wrong", 1, 7, SELF, SELF, ClassFileReader.INDEX, 2);
        due("type and flags wrong", 1, 7, F, 0, ClassFileReader.INDEX, 4);
        due("INDEX of the type before NAME", 1, 7, DOTTED, 0, ClassFileReader.INDEX, 4);
        due("NAME before TYPE", 1, 7, DOTTED, INT_TYPE, ClassFileReader.NAME, 2);
        due("TYPE before FLAGS", 1, 7, F, INT_TYPE, ClassFileReader.TYPE, 4);
        due("FLAGS", 1, 7, F, VOID_TYPE, ClassFileReader.FLAGS, 0);
        int[] wrong = {0, SELF, 13, 64, 65535};
        for (int index : wrong) {
            due("name " + index, 1, 1, index, VOID_TYPE, ClassFileReader.INDEX, 2);
            due("type " + index, 1, 1, F, index, ClassFileReader.INDEX, 4);
        }
    }

    /** A file of one field (kind 0) or method (1), cut off behind it, or whole if it is right. */
    private static void due(String what, int kind, int flags, int name, int type, int code, int offset) {
        FileBytes file = head(IN_CLASS);
        if (kind == 1) {
            file.u2(0);
        }
        file.u2(1);
        int place = file.u2(flags);
        file.u2(name);
        file.u2(type);
        if (code == 0) {
            file.u2(0);
            file.u2(0);
            if (kind == 0) {
                file.u2(0);
            }
        }
        check.dueRead(what, file, code, code == 0 ? -1 : place + offset);
    }

    private static boolean atMostOne(int flags) {
        int reach = flags % 8;
        return reach == 0 || reach == 1 || reach == 2 || reach == 4;
    }

    private static void fieldFlags() {
        int[] files = {IN_CLASS, IN_INTERFACE};
        for (int fileFlags : files) {
            FileBytes file = head(fileFlags);
            file.u2(1);
            int place = file.member(0, F, INT_TYPE, 0);
            file.u2(0);
            file.u2(0);
            for (int flags = 0; flags <= 65535; flags++) {
                file.set2(place, flags);
                boolean fits = atMostOne(flags) && (flags & 80) != 80;
                if (fileFlags == IN_INTERFACE) {
                    fits &= (flags & 25) == 25;
                }
                check.dueRead("field flags " + flags, file, fits ? 0 : ClassFileReader.FLAGS, fits ? -1 : place);
            }
        }
    }

    private static void methodFlags() {
        int[] files = {IN_CLASS, IN_INTERFACE};
        int[] names = {F, INIT, CLINIT};
        for (int fileFlags : files) {
            for (int name : names) {
                FileBytes file = head(fileFlags);
                file.u2(0);
                file.u2(1);
                int place = file.member(0, name, VOID_TYPE, 0);
                file.u2(0);
                for (int flags = 0; flags < 2048; flags++) {
                    file.set2(place, flags);
                    boolean fits = name == CLINIT || methodFits(flags, name == INIT, fileFlags == IN_INTERFACE);
                    check.dueRead("method flags " + flags, file, fits ? 0 : ClassFileReader.FLAGS, fits ? -1 : place);
                }
            }
        }
    }

    private static boolean methodFits(int flags, boolean init, boolean inInterface) {
        boolean fits = atMostOne(flags);
        if ((flags & 1024) != 0) {
            fits &= (flags & (2 + 8 + 16 + 32 + 256)) == 0;
        }
        if (init) {
            fits &= (flags & (8 + 16 + 32 + 256 + 1024)) == 0;
        }
        if (inInterface) {
            fits &= (flags & 3) == 1 || (flags & 3) == 2;
        }
        return fits;
    }

    private static void namedFlags() {
        dueMethodFlags(IN_CLASS, F, 0, true);
        dueMethodFlags(IN_CLASS, F, 1025, true);
        dueMethodFlags(IN_CLASS, F, 1026, false);
        dueMethodFlags(IN_CLASS, F, 1028 + 2048, true);
        dueMethodFlags(IN_CLASS, F, 3, false);
        dueMethodFlags(IN_CLASS, INIT, 2 + 128 + 2048 + 4096, true);
        dueMethodFlags(IN_CLASS, INIT, 9, false);
        dueMethodFlags(IN_INTERFACE, F, 0, false);
        dueMethodFlags(IN_INTERFACE, F, 4, false);
        dueMethodFlags(IN_INTERFACE, F, 1025, true);
        dueMethodFlags(IN_INTERFACE, F, 10, true);
        dueMethodFlags(IN_INTERFACE, INIT, 1, true);
        dueMethodFlags(IN_INTERFACE, INIT, 0, false);
        dueMethodFlags(IN_INTERFACE, CLINIT, 65535, true);
        dueMethodFlags(IN_CLASS, CLINIT, 65535, true);
    }

    private static void dueMethodFlags(int fileFlags, int name, int flags, boolean fits) {
        FileBytes file = head(fileFlags);
        file.u2(0);
        file.u2(1);
        int place = file.member(flags, name, VOID_TYPE, 0);
        file.u2(0);
        check.dueRead("named flags " + flags, file, fits ? 0 : ClassFileReader.FLAGS, fits ? -1 : place);
    }

    private static void twice() {
        dueTwo("the same field", 0, F, INT_TYPE, F, INT_TYPE, true);
        dueTwo("the same field by other texts", 0, F, INT_TYPE, F_AGAIN, INT_AGAIN, true);
        dueTwo("fields of other types", 0, F, INT_TYPE, F, LONG_TYPE, false);
        dueTwo("fields of other names", 0, F, INT_TYPE, INT_TYPE, INT_TYPE, false);
        dueTwo("the same method", 1, F, VOID_TYPE, F_AGAIN, VOID_AGAIN, true);
        dueTwo("methods of other names", 1, F, VOID_TYPE, INT_TYPE, VOID_TYPE, false);
        dueTwo("<clinit> twice", 1, CLINIT, VOID_TYPE, CLINIT, VOID_AGAIN, true);
        FileBytes file = head(IN_CLASS);
        file.u2(2);
        file.member(0, F, INT_TYPE, 0);
        int place = file.u2(3);
        file.u2(F);
        file.u2(INT_TYPE);
        check.dueRead("FLAGS before TWICE", file, ClassFileReader.FLAGS, place);
        file.set2(place, 0);
        check.dueRead("TWICE before the attributes", file, ClassFileReader.TWICE, place);
    }

    private static void dueTwo(String what, int kind, int name, int type, int name2, int type2, boolean same) {
        FileBytes file = head(IN_CLASS);
        if (kind == 1) {
            file.u2(0);
        }
        file.u2(2);
        file.member(1, name, type, 0);
        int place = file.member(2, name2, type2, 0);
        if (kind == 0) {
            file.u2(0);
        }
        file.u2(0);
        check.dueRead(what, file, same ? ClassFileReader.TWICE : 0, same ? place : -1);
    }

    /** The three items are looked at only when all are read. */
    private static void shortMembers() {
        FileBytes file = head(IN_CLASS);
        file.u2(1);
        file.u2(7);
        file.u2(0);
        check.dueRead("without its type", file, ClassFileReader.SHORT, file.size());
        file.u1(0);
        check.dueRead("with half its type", file, ClassFileReader.SHORT, file.size());
    }
}
