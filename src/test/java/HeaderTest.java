/** Promise 5: flags, THIS, SUPER and the interfaces. */
public final class HeaderTest {
    private static final Check check = new Check();

    public static void main(String[] args) {
        flags();
        namedFlags();
        thisAndSuper();
        interfaces();
        rest();
        check.end();
    }

    /** Classes 2, 4, 6 with the names A, p/B and, a second time, A; the array class 8; 9 an int. */
    private static FileBytes pool() {
        FileBytes file = FileBytes.start();
        file.classOf("A");
        file.classOf("p/B");
        file.classOf("A");
        file.classOf("[I");
        file.word(FileBytes.INT, 1);
        return file.endPool();
    }

    private static boolean fit(int flags) {
        if ((flags & 512) == 512) {
            return (flags & 1024) == 1024 && (flags & 16) == 0 && (flags & 32) == 0 && (flags & 16384) == 0;
        }
        return (flags & 1040) != 1040 && (flags & 8192) == 0;
    }

    private static void flags() {
        FileBytes file = pool();
        int place = file.header(0, 2, 0);
        file.endEmpty();
        for (int flags = 0; flags <= 65535; flags++) {
            file.set2(place, flags);
            boolean fits = fit(flags);
            check.dueRead("flags " + flags, file, fits ? 0 : ClassFileReader.FLAGS, fits ? -1 : place);
        }
        FileBytes atOnce = pool();
        int wrong = atOnce.u2(512);
        check.dueRead("looked at at once", atOnce, ClassFileReader.FLAGS, wrong);
    }

    private static void namedFlags() {
        int[] right = {0, 1, 33, 48, 1056, 1536, 9728, 1537, 16433, 4096, 32768};
        int[] wrong = {512, 513, 1552, 1568, 17920, 1040, 8192, 8193, 9216};
        FileBytes file = pool();
        int place = file.header(0, 2, 0);
        file.endEmpty();
        for (int flags : right) {
            file.set2(place, flags);
            check.dueSound("right flags " + flags, file);
        }
        for (int flags : wrong) {
            file.set2(place, flags);
            check.dueRead("wrong flags " + flags, file, ClassFileReader.FLAGS, place);
        }
    }

    private static void thisAndSuper() {
        for (int item = 0; item < 2; item++) {
            for (int index = 0; index <= 11; index++) {
                FileBytes file = pool();
                int place = file.header(33, item == 0 ? index : 2, item == 0 ? 4 : index) + 2 + 2 * item;
                file.endEmpty();
                if (index == 2 || index == 4 || index == 6 || index == 0 && item == 1) {
                    check.dueSound("item " + item + " names " + index, file);
                } else {
                    int code = index == 8 ? ClassFileReader.NAME : ClassFileReader.INDEX;
                    check.dueRead("item " + item + " names " + index, file, code, place);
                }
            }
        }
        FileBytes early = pool();
        early.u2(33);
        int place = early.u2(8);
        check.dueRead("THIS is looked at when it is read", early, ClassFileReader.NAME, place);
    }

    private static void interfaces() {
        check.dueSound("two interfaces", withInterfaces(2, 4));
        check.dueSound("an interface with the name of THIS", withInterfaces(2));
        check.dueRead("the same index", withInterfaces(4, 2, 4), ClassFileReader.TWICE, placeOfInterface(2));
        check.dueRead("the same name", withInterfaces(2, 4, 6), ClassFileReader.TWICE, placeOfInterface(2));
        check.dueRead("at the second", withInterfaces(2, 6, 2), ClassFileReader.TWICE, placeOfInterface(1));
        check.dueRead("an array", withInterfaces(2, 8), ClassFileReader.NAME, placeOfInterface(1));
        check.dueRead("an array twice", withInterfaces(8, 8), ClassFileReader.NAME, placeOfInterface(0));
        int[] noClass = {0, 1, 9, 10, 64, 65535};
        for (int index : noClass) {
            check.dueRead("interface " + index, withInterfaces(2, index), ClassFileReader.INDEX, placeOfInterface(1));
        }
        FileBytes many = pool();
        many.header(33, 2, 0);
        many.set2(many.size() - 2, 65535);
        many.u2(2);
        check.dueRead("more interfaces than bytes", many, ClassFileReader.SHORT, many.size());
        FileBytes early = pool();
        early.header(33, 2, 0, 2, 2);
        check.dueRead("looked at when it is read", early, ClassFileReader.TWICE, placeOfInterface(1));
    }

    private static FileBytes withInterfaces(int... interfaces) {
        FileBytes file = pool();
        file.header(33, 2, 4, interfaces);
        return file.endEmpty();
    }

    private static int placeOfInterface(int k) {
        return pool().size() + 8 + 2 * k;
    }

    private static void rest() {
        FileBytes file = withInterfaces();
        int end = file.size();
        for (int size = 0; size < end; size++) {
            ClassFileReader x = new ClassFileReader();
            for (int i = 0; i < size; i++) {
                x.put(file.toBytes()[i], 1);
            }
            check.dueRead("the first " + size, x, ClassFileReader.SHORT, size);
        }
        check.dueSound("no rest", file);
        file.u1(0);
        check.dueRead("one byte more", file, ClassFileReader.REST, end);
        file.u4(0);
        check.dueRead("five bytes more", file, ClassFileReader.REST, end);
    }
}
