import java.util.ArrayList;
import java.util.Arrays;
import java.util.List;

/** Writes class files piece by piece; what adds an item answers its place, what adds an entry its index. */
final class FileBytes {
    static final int TEXT = 1;
    static final int INT = 3;
    static final int FLOAT = 4;
    static final int LONG = 5;
    static final int DOUBLE = 6;
    static final int CLASS = 7;
    static final int STRING = 8;
    static final int FIELD = 9;
    static final int METHOD = 10;
    static final int INTERFACE_METHOD = 11;
    static final int NAMETYPE = 12;

    private byte[] bytes = new byte[64];
    private int size = 0;
    private int nextIndex = 1;
    private final List<Integer> entryPlaces = new ArrayList<>(List.of(0));

    /** A file with the pool still open. */
    static FileBytes start() {
        FileBytes file = new FileBytes();
        file.u4(0xCAFEBABEL);
        file.u2(0);
        file.u2(61);
        file.u2(0);
        return file;
    }

    int size() {
        return size;
    }

    int u1(int value) {
        if (size == bytes.length) {
            bytes = Arrays.copyOf(bytes, 2 * size);
        }
        bytes[size++] = (byte) value;
        return size - 1;
    }

    int u2(int value) {
        u1(value >> 8);
        return u1(value) - 1;
    }

    int u4(long value) {
        u2((int) (value >> 16));
        return u2((int) value) - 2;
    }

    void set1(int place, int value) {
        bytes[place] = (byte) value;
    }

    void set2(int place, int value) {
        set1(place, value >> 8);
        set1(place + 1, value);
    }

    private int entry(int tag, int indexes) {
        int index = nextIndex;
        nextIndex += indexes;
        int place = u1(tag);
        for (int i = 0; i < indexes; i++) {
            entryPlaces.add(place);
        }
        return index;
    }

    /** The place of an entry's tag. */
    int placeOf(int index) {
        return entryPlaces.get(index);
    }

    int text(String text) {
        int index = entry(TEXT, 1);
        u2(text.length());
        for (int i = 0; i < text.length(); i++) {
            u1(text.charAt(i));
        }
        return index;
    }

    int one(int tag, int first) {
        int index = entry(tag, 1);
        u2(first);
        return index;
    }

    int two(int tag, int first, int second) {
        int index = entry(tag, 1);
        u2(first);
        u2(second);
        return index;
    }

    int word(int tag, int value) {
        int index = entry(tag, 1);
        u4(value);
        return index;
    }

    int wide(int tag, long value) {
        int index = entry(tag, 2);
        u4(value >> 32);
        u4(value);
        return index;
    }

    /** A class with a text of its own in front of it. */
    int classOf(String name) {
        return one(CLASS, text(name));
    }

    FileBytes endPool() {
        set2(8, nextIndex);
        return this;
    }

    int header(int flags, int thisClass, int superClass, int... interfaces) {
        int place = u2(flags);
        u2(thisClass);
        u2(superClass);
        u2(interfaces.length);
        for (int index : interfaces) {
            u2(index);
        }
        return place;
    }

    /** A field or method, with the count of its attributes. */
    int member(int flags, int name, int type, int attributes) {
        int place = u2(flags);
        u2(name);
        u2(type);
        u2(attributes);
        return place;
    }

    /** An attribute whose content is so many U2. */
    int attribute(int name, int... content) {
        int place = u2(name);
        u4(2L * content.length);
        for (int item : content) {
            u2(item);
        }
        return place;
    }

    /** No fields, no methods and no attributes. */
    FileBytes endEmpty() {
        u2(0);
        u2(0);
        u2(0);
        return this;
    }

    /** Ends the pool and the file: a class of the pool, and no members or attributes. */
    FileBytes endBare(int self) {
        endPool().header(33, self, 0);
        return endEmpty();
    }

    /** A file in order with just so many bytes, 41 or more, the last of them in an attribute that is skipped. */
    static FileBytes filledTo(int total) {
        FileBytes file = start();
        int self = file.classOf("A");
        int attribute = file.text("X");
        file.endPool().header(33, self, 0);
        file.u2(0);
        file.u2(0);
        file.u2(1);
        file.u2(attribute);
        int content = file.u4(0) + 4;
        file.set2(content - 2, total - content);
        while (file.size < total) {
            file.u1(255);
        }
        return file;
    }

    byte[] toBytes() {
        return Arrays.copyOf(bytes, size);
    }

    ClassFileReader reader() {
        return readerOf(toBytes());
    }

    static ClassFileReader readerOf(byte[] bytes) {
        ClassFileReader reader = new ClassFileReader();
        putAll(reader, bytes);
        return reader;
    }

    static void putAll(ClassFileReader reader, byte[] bytes) {
        for (int from = 0; from < bytes.length; from += 8) {
            int n = Math.min(8, bytes.length - from);
            long value = 0;
            for (int i = 0; i < n; i++) {
                value = value << 8 | bytes[from + i] & 255;
            }
            if (reader.put(value, n) != from + n) {
                throw new IllegalStateException("the test's file is too long");
            }
        }
    }
}
