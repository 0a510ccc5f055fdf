/**
 * What the tests of attribute tables share: files up to a table of one kind, which the test writes. The
 * indexes of their pool are always the same.
 */
abstract class AttributeTables {
    static final int FIELD = 0;
    static final int METHOD = 1;
    static final int COMPONENT = 2;
    static final int FILE = 3;
    static final String[] KINDS = {"field", "method", "component", "file"};

    static final int SELF = 2;
    static final int ARRAY = 4;
    static final int WORD = 5;
    static final int NAME = 6;
    static final int TYPE = 7;
    static final int METHOD_TYPE = 8;
    static final int ATTRIBUTE = 9;
    static final int ATTRIBUTE_AGAIN = 10;
    static final int RECORD = 11;

    /** From the last entry of the pool to the content of the Record: the text, the header, counts and the head. */
    private static final int RECORD_TO_CONTENT = 9 + 8 + 6 + 6;

    /** A file up to the count of a table of the kind, which is left to be written. */
    static FileBytes upTo(int kind, String attribute) {
        FileBytes file = FileBytes.start();
        file.classOf("A");
        file.classOf("[I");
        file.word(FileBytes.INT, 1);
        file.text("f");
        file.text("I");
        file.text("()V");
        file.text(attribute);
        file.text(attribute);
        file.text("Record");
        file.endPool().header(33, SELF, 0);
        file.u2(kind == FIELD ? 1 : 0);
        if (kind == FIELD) {
            file.u2(0);
            file.u2(NAME);
            file.u2(TYPE);
            return file;
        }
        file.u2(kind == METHOD ? 1 : 0);
        if (kind == METHOD) {
            file.u2(0);
            file.u2(NAME);
            file.u2(METHOD_TYPE);
        }
        if (kind == COMPONENT) {
            file.u2(1);
            file.u2(RECORD);
            file.u4(2);
            file.u2(1);
            file.u2(NAME);
            file.u2(TYPE);
        }
        return file;
    }

    /** Ends the file behind the table, and gives the Record around it its length. */
    static FileBytes end(int kind, FileBytes file) {
        if (kind == FIELD) {
            file.u2(0);
        }
        if (kind == FIELD || kind == METHOD) {
            file.u2(0);
        }
        if (kind == COMPONENT) {
            int content = file.placeOf(RECORD) + RECORD_TO_CONTENT;
            file.set2(content - 2, file.size() - content);
        }
        return file;
    }

    /** A file with one attribute in its table, up to the end of what is told of its content. */
    static FileBytes withList(int kind, String name, long length, int... items) {
        FileBytes file = upTo(kind, name);
        file.u2(1);
        file.u2(ATTRIBUTE);
        file.u4(length);
        for (int item : items) {
            file.u2(item);
        }
        return file;
    }
}
