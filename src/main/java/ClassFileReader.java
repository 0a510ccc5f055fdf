import java.util.Arrays;

/**
 * A reader of class files: bytes are put, read and checked from front to back, and a file in order
 * gives a mirror that can be asked for what its tables say.
 */
public final class ClassFileReader {
    public static final int REFUSED = -1;
    public static final int SHORT = 1;
    public static final int MAGIC = 2;
    public static final int VERSION = 3;
    public static final int POOL = 4;
    public static final int INDEX = 5;
    public static final int FLAGS = 6;
    public static final int NAME = 7;
    public static final int TYPE = 8;
    public static final int TWICE = 9;
    public static final int LENGTH = 10;
    public static final int REST = 11;
    public static final int COUNT = 12;
    public static final long NONE = 1000000000000000000L;

    private static final int MOST_BYTES = 480;
    private static final int NOWHERE = -1;
    private static final int NO_CHARACTER = -1;

    private final byte[] bytes;
    private int size;
    private int wrongPlace;
    private Tables mirror;
    private Tables spare;

    public ClassFileReader() {
        bytes = new byte[MOST_BYTES];
        size = 0;
        wrongPlace = NOWHERE;
        mirror = null;
        spare = new Tables();
    }

    public int put(long value, int n) {
        if (n < 1 || n > 8 || size + n > MOST_BYTES) {
            return REFUSED;
        }
        for (int i = 0; i < n; i++) {
            bytes[size + i] = (byte) (value >> (8 * (n - 1 - i)));
        }
        size += n;
        return size;
    }

    public int patch(int place, int value) {
        if (place < 0 || place >= size || value < 0 || value > 255) {
            return REFUSED;
        }
        int before = bytes[place] & 255;
        bytes[place] = (byte) value;
        return before;
    }

    public int drop() {
        int before = size;
        size = 0;
        return before;
    }

    public int read() {
        Tape tape = spare.tape;
        Reading reading = new Reading(spare);
        tape.load(bytes, size);
        spare.empty();
        reading.readStart();
        reading.readPool();
        reading.readHeader();
        reading.readMembers(Tables.FIELDS);
        reading.readMembers(Tables.METHODS);
        reading.readFileTable();
        reading.wantEnd();
        wrongPlace = tape.wrongPlace;
        if (tape.isSound()) {
            mirrorSpare();
        }
        return tape.code;
    }

    public int place() {
        return wrongPlace;
    }

    public int number(int what) {
        return mirror == null ? REFUSED : mirror.numberOf(what);
    }

    public int flags(int kind, int k) {
        return mirror == null ? REFUSED : mirror.flagsOf(kind, k);
    }

    public int text(int kind, int k, int index) {
        return mirror == null ? NO_CHARACTER : mirror.pool.characterOf(mirror.textOf(kind, k), index);
    }

    public int exceptions(int k) {
        if (mirror == null || !mirror.has(Tables.METHODS, k)) {
            return REFUSED;
        }
        return mirror.elementsOf(Tables.METHODS, k, Known.EXCEPTIONS);
    }

    public int exception(int k, int e, int index) {
        if (mirror == null) {
            return NO_CHARACTER;
        }
        int thrown = mirror.elementItem(Tables.METHODS, k, Known.EXCEPTIONS, e, 0);
        return mirror.pool.characterOf(mirror.pool.classText(thrown), index);
    }

    public long constant(int k) {
        if (mirror == null) {
            return NONE;
        }
        return mirror.pool.constantOf(mirror.contentItem(Tables.FIELDS, k, Known.CONSTANT_VALUE));
    }

    public int deprecated(int kind, int k) {
        boolean asked = kind == Tables.FIELDS || kind == Tables.METHODS || kind == Tables.COMPONENTS;
        if (mirror == null || !asked || !mirror.has(kind, k)) {
            return REFUSED;
        }
        return mirror.contentOf(kind, k, Known.DEPRECATED) == Tables.ABSENT ? 0 : 1;
    }

    /** The old mirror's rows serve the next reading, so that no read makes new ones. */
    private void mirrorSpare() {
        Tables old = mirror;
        mirror = spare;
        spare = old == null ? new Tables() : old;
    }

    /**
     * Bytes that are read from front to back. The first thing wrong stays: from then on nothing more is
     * read, every item is 0, and whatever else is found wrong is not told.
     */
    private static final class Tape {
        private final byte[] row = new byte[MOST_BYTES];
        private int size = 0;
        private int at = 0;
        private int code = 0;
        private int wrongPlace = NOWHERE;

        void load(byte[] bytes, int count) {
            System.arraycopy(bytes, 0, row, 0, count);
            size = count;
            at = 0;
            code = 0;
            wrongPlace = NOWHERE;
        }

        boolean isSound() {
            return code == 0;
        }

        void want(boolean holds, int fault, int faultPlace) {
            if (!holds && code == 0) {
                code = fault;
                wrongPlace = faultPlace;
            }
        }

        /** The next n bytes as a number. */
        long item(int n) {
            want(n <= size - at, SHORT, size);
            if (code != 0) {
                return 0;
            }
            at += n;
            return numberAt(at - n, n);
        }

        int u2() {
            return (int) item(2);
        }

        void skip(long n) {
            want(n <= size - at, SHORT, size);
            if (code == 0) {
                at += (int) n;
            }
        }

        /** The n bytes at a place as a number, 0 if they are not all there. */
        long numberAt(int from, int n) {
            if (from < 0 || from > size - n) {
                return 0;
            }
            long value = 0;
            for (int i = 0; i < n; i++) {
                value = value << 8 | row[from + i] & 255;
            }
            return value;
        }

        int u1At(int from) {
            return from >= 0 && from < size ? row[from] & 255 : 0;
        }

        int u2At(int from) {
            return (int) numberAt(from, 2);
        }
    }

    /** The shapes that the stretches of a tape can have which are names and types. */
    private static final class Grammar {
        static final int CLASS_NAME = 1;
        static final int ARRAY_NAME = 2;
        static final int FIELD_TYPE = 4;
        static final int METHOD_TYPE = 8;
        static final int MEMBER_NAME = 16;

        private static final int MOST_DIMENSIONS = 255;
        private static final int NO_END = -1;
        private static final String PRIMITIVES = "BCDFIJSZ";
        private static final String NOT_IN_PARTS = ".;[";
        private static final String NOT_IN_MEMBERS = ".;[/<>";

        /** All shapes of the stretch, as a sum. */
        static int shapesOf(Tape tape, int from, int end) {
            int shapes = isClassName(tape, from, end) ? CLASS_NAME : 0;
            if (fieldTypeEnd(tape, from, end) == end) {
                shapes |= tape.u1At(from) == '[' ? FIELD_TYPE | ARRAY_NAME : FIELD_TYPE;
            }
            if (isMethodType(tape, from, end)) {
                shapes |= METHOD_TYPE;
            }
            if (isMemberName(tape, from, end)) {
                shapes |= MEMBER_NAME;
            }
            return shapes;
        }

        private static boolean isClassName(Tape tape, int from, int end) {
            int part = from;
            for (int i = from; i < end; i++) {
                int c = tape.u1At(i);
                if (NOT_IN_PARTS.indexOf((char) c) >= 0 || c == '/' && i == part) {
                    return false;
                }
                if (c == '/') {
                    part = i + 1;
                }
            }
            return part < end;
        }

        private static boolean isMemberName(Tape tape, int from, int end) {
            for (int i = from; i < end; i++) {
                if (NOT_IN_MEMBERS.indexOf((char) tape.u1At(i)) >= 0) {
                    return false;
                }
            }
            return from < end;
        }

        private static boolean isMethodType(Tape tape, int from, int end) {
            if (from >= end || tape.u1At(from) != '(') {
                return false;
            }
            int at = from + 1;
            for (int types = from; types < end && at != NO_END && at < end && tape.u1At(at) != ')'; types++) {
                at = fieldTypeEnd(tape, at, end);
            }
            if (at == NO_END || at >= end || tape.u1At(at) != ')') {
                return false;
            }
            boolean isVoid = at + 2 == end && tape.u1At(at + 1) == 'V';
            return isVoid || fieldTypeEnd(tape, at + 1, end) == end;
        }

        /** The place behind the field type that begins at from, NO_END if none does. */
        private static int fieldTypeEnd(Tape tape, int from, int end) {
            int at = from;
            while (at < end && tape.u1At(at) == '[') {
                at++;
            }
            if (at >= end || at - from > MOST_DIMENSIONS) {
                return NO_END;
            }
            if (tape.u1At(at) != 'L') {
                return PRIMITIVES.indexOf((char) tape.u1At(at)) >= 0 ? at + 1 : NO_END;
            }
            int close = at + 1;
            while (close < end && tape.u1At(close) != ';') {
                close++;
            }
            return close < end && isClassName(tape, at + 1, close) ? close + 1 : NO_END;
        }
    }

    /** The entries of the pool, as places on the tape. */
    private static final class Pool {
        static final int TEXT = 1;
        static final int INT = 3;
        static final int FLOAT = 4;
        static final int LONG = 5;
        static final int DOUBLE = 6;
        static final int CLASS = 7;
        static final int STRING = 8;
        static final int FIELD = 9;
        static final int METHOD = 10;
        static final int INTERFACE_METHOD = 11;
        static final int NAMETYPE = 12;
        /** A tag that no entry and no free index has. */
        static final int NO_TAG = -1;

        static final int MOST = 64;

        private static final int TEXT_HEAD = 3;

        private final Tape tape = new Tape();
        private final int[] tags = new int[MOST];
        private final int[] places = new int[MOST];
        private final int[] lengths = new int[MOST];
        /** Found once for each text, since many items may name it. */
        private final int[] shapes = new int[MOST];

        void empty() {
            Arrays.fill(tags, 0);
        }

        void readEntries(int n) {
            for (int index = 1; index < n && index < MOST && tape.isSound(); index++) {
                places[index] = tape.at;
                tags[index] = (int) tape.item(1);
                readEntry(index, n);
                if (tags[index] == LONG || tags[index] == DOUBLE) {
                    index++;
                }
            }
        }

        private void readEntry(int index, int n) {
            switch (tags[index]) {
                case TEXT:
                    readText(index);
                    break;
                case CLASS:
                case STRING:
                    tape.skip(2);
                    break;
                case INT:
                case FLOAT:
                case FIELD:
                case METHOD:
                case INTERFACE_METHOD:
                case NAMETYPE:
                    tape.skip(4);
                    break;
                case LONG:
                case DOUBLE:
                    tape.want(index + 1 < n, POOL, places[index]);
                    tape.skip(8);
                    break;
                default:
                    tape.want(false, POOL, places[index]);
            }
        }

        private void readText(int index) {
            int length = tape.u2();
            lengths[index] = length;
            for (int i = 0; i < length && tape.isSound(); i++) {
                int place = tape.at;
                long c = tape.item(1);
                tape.want(c >= 1 && c <= 127, POOL, place);
            }
        }

        void lookAtEntries() {
            for (int index = 1; index < MOST && tape.isSound(); index++) {
                if (tags[index] == TEXT) {
                    int from = places[index] + TEXT_HEAD;
                    shapes[index] = Grammar.shapesOf(tape, from, from + lengths[index]);
                }
            }
            for (int index = 1; index < MOST && tape.isSound(); index++) {
                lookAtEntry(index);
            }
        }

        private void lookAtEntry(int index) {
            int place = places[index];
            int first = tape.u2At(place + 1);
            int second = tape.u2At(place + 3);
            switch (tags[index]) {
                case CLASS:
                    tape.want(names(first, TEXT), INDEX, place);
                    tape.want(hasShape(first, Grammar.CLASS_NAME | Grammar.ARRAY_NAME), NAME, place);
                    break;
                case STRING:
                    tape.want(names(first, TEXT), INDEX, place);
                    break;
                case FIELD:
                case METHOD:
                case INTERFACE_METHOD:
                    tape.want(names(first, CLASS) && names(second, NAMETYPE), INDEX, place);
                    break;
                case NAMETYPE:
                    tape.want(names(first, TEXT) && names(second, TEXT), INDEX, place);
                    tape.want(hasShape(first, Grammar.MEMBER_NAME) || spells(first, "<init>"), NAME, place);
                    tape.want(hasShape(second, Grammar.FIELD_TYPE | Grammar.METHOD_TYPE), TYPE, place);
                    break;
                default:
                    break;
            }
        }

        boolean names(int index, int tag) {
            return index >= 1 && index < MOST && tags[index] == tag;
        }

        /** Whether the index names a text that has one of the shapes. */
        boolean hasShape(int index, int wanted) {
            return names(index, TEXT) && (shapes[index] & wanted) != 0;
        }

        /** The index of the text that is the name of the class at the index, 0 if it names no class. */
        int classText(int index) {
            return names(index, CLASS) ? tape.u2At(places[index] + 1) : 0;
        }

        boolean isNamedClass(int index) {
            return hasShape(classText(index), Grammar.CLASS_NAME);
        }

        boolean spells(int index, String wanted) {
            if (!names(index, TEXT) || lengths[index] != wanted.length()) {
                return false;
            }
            int from = places[index] + TEXT_HEAD;
            for (int i = 0; i < wanted.length(); i++) {
                if (tape.u1At(from + i) != wanted.charAt(i)) {
                    return false;
                }
            }
            return true;
        }

        boolean areSameTexts(int one, int other) {
            if (!names(one, TEXT) || !names(other, TEXT) || lengths[one] != lengths[other]) {
                return false;
            }
            int from = places[one] + TEXT_HEAD;
            int otherFrom = places[other] + TEXT_HEAD;
            for (int i = 0; i < lengths[one]; i++) {
                if (tape.u1At(from + i) != tape.u1At(otherFrom + i)) {
                    return false;
                }
            }
            return true;
        }

        int characterOf(int text, int i) {
            if (!names(text, TEXT) || i < 0 || i >= lengths[text]) {
                return NO_CHARACTER;
            }
            return tape.u1At(places[text] + TEXT_HEAD + i);
        }

        /** What the entry says as the constant of a field. */
        long constantOf(int index) {
            if (index < 1 || index >= MOST) {
                return NONE;
            }
            switch (tags[index]) {
                case INT:
                case FLOAT:
                    return (int) tape.numberAt(places[index] + 1, 4);
                case LONG:
                case DOUBLE:
                    long value = tape.numberAt(places[index] + 1, 8);
                    return value > -NONE && value < NONE ? value : NONE;
                case STRING:
                    int text = tape.u2At(places[index] + 1);
                    return names(text, TEXT) ? lengths[text] : NONE;
                default:
                    return NONE;
            }
        }

        /** The tag that a constant of a field of the type must have. */
        int constantTag(int type) {
            if (spells(type, "Ljava/lang/String;")) {
                return STRING;
            }
            if (!names(type, TEXT) || lengths[type] != 1) {
                return NO_TAG;
            }
            switch (characterOf(type, 0)) {
                case 'I':
                case 'S':
                case 'C':
                case 'B':
                case 'Z':
                    return INT;
                case 'F':
                    return FLOAT;
                case 'J':
                    return LONG;
                case 'D':
                    return DOUBLE;
                default:
                    return NO_TAG;
            }
        }
    }

    /** What flags may stand together. */
    private static final class Access {
        private static final int PUBLIC = 1;
        private static final int PRIVATE = 2;
        private static final int PROTECTED = 4;
        private static final int STATIC = 8;
        private static final int FINAL = 16;
        private static final int SYNCHRONIZED = 32;
        private static final int VOLATILE = 64;
        private static final int NATIVE = 256;
        private static final int INTERFACE = 512;
        private static final int ABSTRACT = 1024;
        private static final int ANNOTATION = 8192;
        private static final int ENUM = 16384;
        /** The bit of SYNCHRONIZED means another thing in the flags of a file. */
        private static final int SUPER = 32;

        private static final int NOT_IN_INTERFACE = FINAL | SUPER | ENUM;
        private static final int OF_CONSTANT = PUBLIC | STATIC | FINAL;
        private static final int NOT_IN_ABSTRACT = PRIVATE | STATIC | FINAL | SYNCHRONIZED | NATIVE;
        private static final int NOT_IN_INIT = STATIC | FINAL | SYNCHRONIZED | NATIVE | ABSTRACT;

        static boolean isInterface(int flags) {
            return hasAny(flags, INTERFACE);
        }

        static boolean fitFile(int flags) {
            if (isInterface(flags)) {
                return hasAny(flags, ABSTRACT) && !hasAny(flags, NOT_IN_INTERFACE);
            }
            return !hasAll(flags, FINAL | ABSTRACT) && !hasAny(flags, ANNOTATION);
        }

        static boolean fitField(int flags, boolean inInterface) {
            return hasOneReach(flags) && !hasAll(flags, FINAL | VOLATILE)
                && (!inInterface || hasAll(flags, OF_CONSTANT));
        }

        static boolean fitMethod(int flags, boolean inInterface, boolean isInit) {
            return hasOneReach(flags)
                && !(hasAny(flags, ABSTRACT) && hasAny(flags, NOT_IN_ABSTRACT))
                && !(isInit && hasAny(flags, NOT_IN_INIT))
                && (!inInterface || hasAny(flags, PUBLIC) != hasAny(flags, PRIVATE));
        }

        private static boolean hasOneReach(int flags) {
            return Integer.bitCount(flags & (PUBLIC | PRIVATE | PROTECTED)) <= 1;
        }

        private static boolean hasAny(int flags, int some) {
            return (flags & some) != 0;
        }

        private static boolean hasAll(int flags, int some) {
            return (flags & some) == some;
        }
    }

    /** The attributes whose content is read, each with the tables that know it. */
    private enum Known {
        SIGNATURE("Signature", 0, Tables.IN_ALL, Pool.TEXT, 0),
        DEPRECATED("Deprecated", 1, Tables.IN_ALL, Pool.NO_TAG, 0),
        CONSTANT_VALUE("ConstantValue", 2, Tables.IN_FIELDS, Pool.NO_TAG, 0),
        EXCEPTIONS("Exceptions", 3, Tables.IN_METHODS, Pool.CLASS, 2),
        INNER_CLASSES("InnerClasses", 4, Tables.IN_FILE, Pool.CLASS, 8),
        NEST_MEMBERS("NestMembers", 5, Tables.IN_FILE, Pool.CLASS, 2),
        PERMITTED_SUBCLASSES("PermittedSubclasses", 6, Tables.IN_FILE, Pool.CLASS, 2),
        NEST_HOST("NestHost", 7, Tables.IN_FILE, Pool.CLASS, 0),
        RECORD("Record", 8, Tables.IN_FILE, Pool.NO_TAG, 0);

        static final int SLOTS = 9;

        private static final Known[] ALL = values();

        private final String title;
        private final int slot;
        private final int tables;
        /** The tag of what its index or its elements name, NO_TAG if it has none or the tag is not always the same. */
        private final int tag;
        /** The size of a list's element, 0 for what is no list. */
        private final int elementSize;

        Known(String title, int slot, int tables, int tag, int elementSize) {
            this.title = title;
            this.slot = slot;
            this.tables = tables;
            this.tag = tag;
            this.elementSize = elementSize;
        }

        boolean isList() {
            return elementSize != 0;
        }

        /** What the text names in a table of the kind, null if the table does not know it. */
        static Known find(Pool pool, int text, int kind) {
            for (int i = 0; i < ALL.length; i++) {
                if ((ALL[i].tables >> kind & 1) != 0 && pool.spells(text, ALL[i].title)) {
                    return ALL[i];
                }
            }
            return null;
        }
    }

    /**
     * Where on the tape the tables of a file stand. Fields, methods, components and the file itself are
     * the owners of attribute tables; each is told by a kind and a number within the kind.
     */
    private static final class Tables {
        static final int FIELDS = 0;
        static final int METHODS = 1;
        static final int COMPONENTS = 2;
        static final int FILE = 3;

        static final int IN_FIELDS = 1 << FIELDS;
        static final int IN_METHODS = 1 << METHODS;
        static final int IN_FILE = 1 << FILE;
        static final int IN_ALL = IN_FIELDS | IN_METHODS | 1 << COMPONENTS | IN_FILE;

        static final int MOST_MEMBERS = 16;
        /** No content stands at the front of a file. */
        static final int ABSENT = 0;

        static final int MAJOR_PLACE = 6;
        static final int N_PLACE = 8;

        private static final int OWNERS = 3 * MOST_MEMBERS + 1;

        private final Pool pool = new Pool();
        private final Tape tape = pool.tape;
        private int flagsPlace = 0;
        private final int[] counts = new int[FILE + 1];
        private final int[] namePlaces = new int[OWNERS];
        private final int[] contents = new int[OWNERS * Known.SLOTS];

        void empty() {
            pool.empty();
            flagsPlace = 0;
            Arrays.fill(counts, 0);
            counts[FILE] = 1;
            Arrays.fill(contents, ABSENT);
        }

        /** Adds field, method or component k, the next of its kind. */
        void begin(int kind, int k, int namePlace) {
            if (kind < FIELDS || kind > COMPONENTS || k < 0 || k >= MOST_MEMBERS) {
                return;
            }
            counts[kind] = k + 1;
            namePlaces[MOST_MEMBERS * kind + k] = namePlace;
        }

        boolean has(int kind, int k) {
            return kind >= FIELDS && kind <= FILE && k >= 0 && k < counts[kind];
        }

        void keepContent(int kind, int k, Known known, int place) {
            if (has(kind, k)) {
                contents[slotOf(kind, k, known)] = place;
            }
        }

        /** The place of the content of an attribute, or ABSENT. */
        int contentOf(int kind, int k, Known known) {
            return has(kind, k) ? contents[slotOf(kind, k, known)] : ABSENT;
        }

        private static int slotOf(int kind, int k, Known known) {
            return (MOST_MEMBERS * kind + k) * Known.SLOTS + known.slot;
        }

        /** The U2 that begins the content of an attribute, 0 without it. */
        int contentItem(int kind, int k, Known known) {
            int content = contentOf(kind, k, known);
            return content == ABSENT ? 0 : tape.u2At(content);
        }

        /** How many elements the list has, 0 without it. */
        int elementsOf(int kind, int k, Known list) {
            return contentItem(kind, k, list);
        }

        /** The U2 at an offset in element e of the list, 0 if there is no such element. */
        int elementItem(int kind, int k, Known list, int e, int offset) {
            if (e < 0 || e >= elementsOf(kind, k, list)) {
                return 0;
            }
            return tape.u2At(contentOf(kind, k, list) + 2 + list.elementSize * e + offset);
        }

        int nameOf(int kind, int k) {
            return has(kind, k) ? tape.u2At(namePlaces[MOST_MEMBERS * kind + k]) : 0;
        }

        int typeOf(int kind, int k) {
            return has(kind, k) ? tape.u2At(namePlaces[MOST_MEMBERS * kind + k] + 2) : 0;
        }

        int fileFlags() {
            return tape.u2At(flagsPlace);
        }

        int interfaces() {
            return tape.u2At(flagsPlace + 6);
        }

        /** The index of the text that is the name of interface k, 0 if there is none. */
        int interfaceText(int k) {
            return k >= 0 && k < interfaces() ? pool.classText(tape.u2At(flagsPlace + 8 + 2 * k)) : 0;
        }

        int numberOf(int what) {
            switch (what) {
                case 0:
                    return tape.u2At(MAJOR_PLACE);
                case 1:
                    return fileFlags();
                case 2:
                    return tape.u2At(N_PLACE);
                case 3:
                    return interfaces();
                case 4:
                    return counts[FIELDS];
                case 5:
                    return counts[METHODS];
                case 6:
                    return elementsOf(FILE, 0, Known.INNER_CLASSES);
                case 7:
                    return elementsOf(FILE, 0, Known.NEST_MEMBERS);
                case 8:
                    return elementsOf(FILE, 0, Known.PERMITTED_SUBCLASSES);
                case 9:
                    return counts[COMPONENTS];
                case 10:
                    return contentOf(FILE, 0, Known.DEPRECATED) == ABSENT ? 0 : 1;
                case 11:
                    return contentOf(FILE, 0, Known.RECORD) == ABSENT ? 0 : 1;
                default:
                    return REFUSED;
            }
        }

        int flagsOf(int kind, int k) {
            if (kind == FIELDS || kind == METHODS) {
                return has(kind, k) ? tape.u2At(namePlaces[MOST_MEMBERS * kind + k] - 2) : REFUSED;
            }
            if (kind != 2 || k < 0 || k >= elementsOf(FILE, 0, Known.INNER_CLASSES)) {
                return REFUSED;
            }
            return elementItem(FILE, 0, Known.INNER_CLASSES, k, 6);
        }

        /** The index of the text that the face's kind tells, 0 if it is not there. */
        int textOf(int kind, int k) {
            switch (kind) {
                case 0:
                    return pool.classText(tape.u2At(flagsPlace + 2));
                case 1:
                    return pool.classText(tape.u2At(flagsPlace + 4));
                case 2:
                    return interfaceText(k);
                case 3:
                    return nameOf(FIELDS, k);
                case 4:
                    return typeOf(FIELDS, k);
                case 5:
                    return nameOf(METHODS, k);
                case 6:
                    return typeOf(METHODS, k);
                case 7:
                    return contentItem(FIELDS, k, Known.SIGNATURE);
                case 8:
                    return contentItem(METHODS, k, Known.SIGNATURE);
                case 9:
                    return contentItem(FILE, 0, Known.SIGNATURE);
                case 10:
                    return nameOf(COMPONENTS, k);
                case 11:
                    return typeOf(COMPONENTS, k);
                case 12:
                    return contentItem(COMPONENTS, k, Known.SIGNATURE);
                default:
                    return classListTextOf(kind, k);
            }
        }

        private int classListTextOf(int kind, int k) {
            switch (kind) {
                case 13:
                    return pool.classText(elementItem(FILE, 0, Known.INNER_CLASSES, k, 0));
                case 14:
                    return pool.classText(elementItem(FILE, 0, Known.INNER_CLASSES, k, 2));
                case 15:
                    return elementItem(FILE, 0, Known.INNER_CLASSES, k, 4);
                case 16:
                    return pool.classText(contentItem(FILE, 0, Known.NEST_HOST));
                case 17:
                    return pool.classText(elementItem(FILE, 0, Known.NEST_MEMBERS, k, 0));
                case 18:
                    return pool.classText(elementItem(FILE, 0, Known.PERMITTED_SUBCLASSES, k, 0));
                default:
                    return 0;
            }
        }
    }

    /** The steps of a reading, in the order of the file. After a fault every step does nothing. */
    private static final class Reading {
        private static final long FILE_MAGIC = 3405691582L;
        private static final int LEAST_MAJOR = 45;
        private static final int MOST_MAJOR = 65;
        private static final int LENGTH_SIZE = 4;
        private static final int COUNT_SIZE = 2;
        private static final int INDEX_SIZE = 2;

        private final Tables tables;
        private final Pool pool;
        private final Tape tape;

        Reading(Tables tables) {
            this.tables = tables;
            this.pool = tables.pool;
            this.tape = tables.tape;
        }

        void readStart() {
            tape.want(tape.item(4) == FILE_MAGIC, MAGIC, 0);
            tape.item(2);
            int major = tape.u2();
            tape.want(major >= LEAST_MAJOR && major <= MOST_MAJOR, VERSION, Tables.MAJOR_PLACE);
        }

        void readPool() {
            int n = tape.u2();
            tape.want(n >= 1 && n <= Pool.MOST, POOL, Tables.N_PLACE);
            pool.readEntries(n);
            pool.lookAtEntries();
        }

        void readHeader() {
            tables.flagsPlace = tape.at;
            tape.want(Access.fitFile(tape.u2()), FLAGS, tables.flagsPlace);
            readNamedClass(false);
            readNamedClass(true);
            int count = tape.u2();
            for (int k = 0; k < count && tape.isSound(); k++) {
                readInterface(k);
            }
        }

        private void readInterface(int k) {
            int place = tape.at;
            readNamedClass(false);
            int name = tables.interfaceText(k);
            for (int j = 0; j < k && tape.isSound(); j++) {
                tape.want(!pool.areSameTexts(tables.interfaceText(j), name), TWICE, place);
            }
        }

        private void readNamedClass(boolean mayBeZero) {
            int place = tape.at;
            int index = readIndex(Pool.CLASS, mayBeZero);
            tape.want(mayBeZero && index == 0 || pool.isNamedClass(index), NAME, place);
        }

        /** Reads a U2 that must name an entry with the tag. */
        private int readIndex(int tag, boolean mayBeZero) {
            int place = tape.at;
            int index = (int) tape.item(2);
            tape.want(mayBeZero && index == 0 || pool.names(index, tag), INDEX, place);
            return index;
        }

        void readMembers(int kind) {
            int place = tape.at;
            int count = tape.u2();
            tape.want(count <= Tables.MOST_MEMBERS, COUNT, place);
            for (int k = 0; k < count && tape.isSound(); k++) {
                readMember(kind, k);
                readTable(kind, k);
            }
        }

        private void readMember(int kind, int k) {
            int place = tape.at;
            int flags = tape.u2();
            readNameAndType(kind, k);
            tape.want(fitMember(kind, k, flags), FLAGS, place);
            for (int j = 0; j < k && tape.isSound(); j++) {
                boolean same = pool.areSameTexts(tables.nameOf(kind, j), tables.nameOf(kind, k))
                    && pool.areSameTexts(tables.typeOf(kind, j), tables.typeOf(kind, k));
                tape.want(!same, TWICE, place);
            }
        }

        private void readNameAndType(int kind, int k) {
            int place = tape.at;
            int name = tape.u2();
            int type = tape.u2();
            tables.begin(kind, k, place);
            tape.want(pool.names(name, Pool.TEXT), INDEX, place);
            tape.want(pool.names(type, Pool.TEXT), INDEX, place + 2);
            boolean isMethod = kind == Tables.METHODS;
            boolean isSpecial = isMethod && (pool.spells(name, "<init>") || pool.spells(name, "<clinit>"));
            tape.want(isSpecial || pool.hasShape(name, Grammar.MEMBER_NAME), NAME, place);
            tape.want(pool.hasShape(type, isMethod ? Grammar.METHOD_TYPE : Grammar.FIELD_TYPE), TYPE, place + 2);
        }

        private boolean fitMember(int kind, int k, int flags) {
            boolean inInterface = Access.isInterface(tables.fileFlags());
            if (kind == Tables.FIELDS) {
                return Access.fitField(flags, inInterface);
            }
            int name = tables.nameOf(kind, k);
            return pool.spells(name, "<clinit>") || Access.fitMethod(flags, inInterface, pool.spells(name, "<init>"));
        }

        /** The file's own table stands apart from the others: its Record holds tables that are read by readTable. */
        void readFileTable() {
            int count = tape.u2();
            for (int i = 0; i < count && tape.isSound(); i++) {
                Known known = readAttributeHead(Tables.FILE, 0);
                if (known == Known.RECORD) {
                    readRecord();
                } else if (known != null && known.isList()) {
                    readList(known);
                } else if (known != null) {
                    readSingle(Tables.FILE, 0, known);
                }
            }
        }

        private void readTable(int kind, int k) {
            int count = tape.u2();
            for (int i = 0; i < count && tape.isSound(); i++) {
                Known known = readAttributeHead(kind, k);
                if (known != null && known.isList()) {
                    readList(known);
                } else if (known != null) {
                    readSingle(kind, k, known);
                }
            }
        }

        /** What the next attribute is, its content being next; null if it has been skipped. */
        private Known readAttributeHead(int kind, int k) {
            int place = tape.at;
            int name = readIndex(Pool.TEXT, false);
            long length = tape.item(LENGTH_SIZE);
            Known known = Known.find(pool, name, kind);
            if (known == null) {
                tape.skip(length);
                return null;
            }
            tape.want(tables.contentOf(kind, k, known) == Tables.ABSENT, TWICE, place);
            tables.keepContent(kind, k, known, tape.at);
            return known;
        }

        /** Reads the content of an attribute that has one index or nothing. */
        private void readSingle(int kind, int k, Known known) {
            if (known == Known.DEPRECATED) {
                wantLength(0);
                return;
            }
            boolean isConstant = known == Known.CONSTANT_VALUE;
            wantLength(INDEX_SIZE);
            readIndex(isConstant ? pool.constantTag(tables.typeOf(kind, k)) : known.tag, false);
        }

        /** Must be called where the content begins. */
        private void wantLength(long wanted) {
            int lengthPlace = tape.at - LENGTH_SIZE;
            tape.want(tape.numberAt(lengthPlace, LENGTH_SIZE) == wanted, LENGTH, lengthPlace);
        }

        private void readList(Known known) {
            int lengthPlace = tape.at - LENGTH_SIZE;
            long length = tape.numberAt(lengthPlace, LENGTH_SIZE);
            tape.want(length >= COUNT_SIZE, LENGTH, lengthPlace);
            int n = (int) tape.item(COUNT_SIZE);
            tape.want(length == COUNT_SIZE + n * known.elementSize, LENGTH, lengthPlace);
            for (int i = 0; i < n && tape.isSound(); i++) {
                readIndex(known.tag, false);
                if (known == Known.INNER_CLASSES) {
                    readIndex(Pool.CLASS, true);
                    readIndex(Pool.TEXT, true);
                    tape.item(2);
                }
            }
        }

        private void readRecord() {
            int content = tape.at;
            int lengthPlace = content - LENGTH_SIZE;
            long length = tape.numberAt(lengthPlace, LENGTH_SIZE);
            tape.want(length >= COUNT_SIZE, LENGTH, lengthPlace);
            int n = tape.u2();
            tape.want(n <= Tables.MOST_MEMBERS, COUNT, content);
            for (int k = 0; k < n && tape.isSound(); k++) {
                readNameAndType(Tables.COMPONENTS, k);
                readTable(Tables.COMPONENTS, k);
            }
            tape.want(length == tape.at - content, LENGTH, lengthPlace);
        }

        void wantEnd() {
            tape.want(tape.at == tape.size, REST, tape.at);
        }
    }
}
