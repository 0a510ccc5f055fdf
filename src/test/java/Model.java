import java.util.ArrayList;
import java.util.HashMap;
import java.util.HashSet;
import java.util.List;
import java.util.Map;
import java.util.Set;
import java.util.regex.Pattern;

/**
 * A second reader of class files, written from the document in another manner (patterns, maps and
 * exceptions), to be held against the first.
 */
final class Model {
    private static final String CLASS = "[^.;\\[/]+(?:/[^.;\\[/]+)*";
    private static final String FIELD = "\\[{0,255}(?:[BCDFIJSZ]|L" + CLASS + ";)";
    private static final Pattern CLASS_NAME = Pattern.compile(CLASS);
    private static final Pattern ARRAY_NAME = Pattern.compile("(?=\\[)" + FIELD);
    private static final Pattern FIELD_TYPE = Pattern.compile(FIELD);
    private static final Pattern METHOD_TYPE = Pattern.compile("\\((?:" + FIELD + ")*\\)(?:V|" + FIELD + ")");
    private static final Pattern MEMBER_NAME = Pattern.compile("[^.;\\[/<>]+");
    private static final Pattern METHOD_NAME = Pattern.compile("[^.;\\[/<>]+|<init>|<clinit>");
    private static final Pattern NAMETYPE_NAME = Pattern.compile("[^.;\\[/<>]+|<init>");

    /** The end of a reading. */
    private static final class Fault extends RuntimeException {
        private static final long serialVersionUID = 1L;
        private final int code;
        private final int place;

        Fault(int code, int place) {
            super(null, null, false, false);
            this.code = code;
            this.place = place;
        }
    }

    private record Entry(int place, int tag, int first, int second, long value, String text) {
    }

    record InnerClass(String name, String outer, String simple, int flags) {
    }

    /** A field, a method, a component, or the file itself. */
    static final class Owner {
        int flags;
        String name;
        String type;
        String signature;
        boolean deprecated;
        long constant = ClassFileReader.NONE;
        List<String> exceptions = List.of();
        private final Set<String> seen = new HashSet<>();
    }

    int code = 0;
    int place = -1;
    int major;
    int n;
    String self;
    String parent;
    String host;
    final Owner file = new Owner();
    final List<String> interfaces = new ArrayList<>();
    final List<Owner> fields = new ArrayList<>();
    final List<Owner> methods = new ArrayList<>();
    final List<Owner> components = new ArrayList<>();
    final List<InnerClass> innerClasses = new ArrayList<>();
    final List<String> nestMembers = new ArrayList<>();
    final List<String> permitted = new ArrayList<>();
    boolean record;

    private final byte[] bytes;
    private int at = 0;
    private final Map<Integer, Entry> pool = new HashMap<>();

    Model(byte[] bytes) {
        this.bytes = bytes;
        try {
            readAll();
        } catch (Fault fault) {
            code = fault.code;
            place = fault.place;
        }
    }

    private static void must(boolean holds, int code, int place) {
        if (!holds) {
            throw new Fault(code, place);
        }
    }

    private long take(int count) {
        must(bytes.length - at >= count, ClassFileReader.SHORT, bytes.length);
        long value = 0;
        for (int i = 0; i < count; i++) {
            value = value * 256 + Byte.toUnsignedInt(bytes[at++]);
        }
        return value;
    }

    private int u2() {
        return (int) take(2);
    }

    private void readAll() {
        must(take(4) == 3405691582L, ClassFileReader.MAGIC, 0);
        take(2);
        major = u2();
        must(major >= 45 && major <= 65, ClassFileReader.VERSION, 6);
        n = u2();
        must(n >= 1 && n <= 64, ClassFileReader.POOL, 8);
        int index = 1;
        while (index != n) {
            index += readEntry(index);
        }
        for (int i = 1; i < n; i++) {
            if (pool.containsKey(i)) {
                lookAt(pool.get(i));
            }
        }
        readHeader();
        readMembers(fields, false);
        readMembers(methods, true);
        readAttributes(file, "file");
        must(at == bytes.length, ClassFileReader.REST, at);
    }

    private int readEntry(int index) {
        int start = at;
        int tag = (int) take(1);
        if (tag == 1) {
            int length = u2();
            StringBuilder text = new StringBuilder();
            for (int i = 0; i < length; i++) {
                int c = (int) take(1);
                must(c > 0 && c < 128, ClassFileReader.POOL, at - 1);
                text.append((char) c);
            }
            pool.put(index, new Entry(start, tag, 0, 0, 0, text.toString()));
        } else if (tag == 3 || tag == 4) {
            pool.put(index, new Entry(start, tag, 0, 0, (int) take(4), null));
        } else if (tag == 5 || tag == 6) {
            must(index + 1 < n, ClassFileReader.POOL, start);
            long high = take(4);
            pool.put(index, new Entry(start, tag, 0, 0, high * 4294967296L + take(4), null));
            return 2;
        } else if (tag == 7 || tag == 8) {
            pool.put(index, new Entry(start, tag, u2(), 0, 0, null));
        } else {
            must(tag >= 9 && tag <= 12, ClassFileReader.POOL, start);
            int first = u2();
            pool.put(index, new Entry(start, tag, first, u2(), 0, null));
        }
        return 1;
    }

    private boolean is(int index, int tag) {
        return pool.containsKey(index) && pool.get(index).tag == tag;
    }

    private String text(int index) {
        return is(index, 1) ? pool.get(index).text : null;
    }

    private String className(int index) {
        return is(index, 7) ? text(pool.get(index).first) : null;
    }

    private static boolean fits(Pattern pattern, String text) {
        return pattern.matcher(text).matches();
    }

    private void lookAt(Entry entry) {
        if (entry.tag == 7) {
            must(is(entry.first, 1), ClassFileReader.INDEX, entry.place);
            String name = text(entry.first);
            must(fits(CLASS_NAME, name) || fits(ARRAY_NAME, name), ClassFileReader.NAME, entry.place);
        } else if (entry.tag == 8) {
            must(is(entry.first, 1), ClassFileReader.INDEX, entry.place);
        } else if (entry.tag >= 9 && entry.tag <= 11) {
            must(is(entry.first, 7), ClassFileReader.INDEX, entry.place);
            must(is(entry.second, 12), ClassFileReader.INDEX, entry.place);
        } else if (entry.tag == 12) {
            must(is(entry.first, 1), ClassFileReader.INDEX, entry.place);
            must(is(entry.second, 1), ClassFileReader.INDEX, entry.place);
            must(fits(NAMETYPE_NAME, text(entry.first)), ClassFileReader.NAME, entry.place);
            String type = text(entry.second);
            must(fits(FIELD_TYPE, type) || fits(METHOD_TYPE, type), ClassFileReader.TYPE, entry.place);
        }
    }

    private boolean set(int flags, int bit) {
        return (flags & bit) == bit;
    }

    private void readHeader() {
        int start = at;
        int flags = u2();
        boolean right;
        if (set(flags, 512)) {
            right = set(flags, 1024) && !set(flags, 16) && !set(flags, 32) && !set(flags, 16384);
        } else {
            right = !(set(flags, 16) && set(flags, 1024)) && !set(flags, 8192);
        }
        must(right, ClassFileReader.FLAGS, start);
        file.flags = flags;
        self = readClass();
        if (at + 2 <= bytes.length && bytes[at] == 0 && bytes[at + 1] == 0) {
            at += 2;
        } else {
            parent = readClass();
        }
        int count = u2();
        for (int i = 0; i < count; i++) {
            int item = at;
            String name = readClass();
            must(!interfaces.contains(name), ClassFileReader.TWICE, item);
            interfaces.add(name);
        }
    }

    private String readClass() {
        int item = at;
        int index = u2();
        must(is(index, 7), ClassFileReader.INDEX, item);
        must(fits(CLASS_NAME, className(index)), ClassFileReader.NAME, item);
        return className(index);
    }

    private void readMembers(List<Owner> members, boolean areMethods) {
        int countPlace = at;
        int count = u2();
        must(count <= 16, ClassFileReader.COUNT, countPlace);
        Set<String> earlier = new HashSet<>();
        for (int i = 0; i < count; i++) {
            int start = at;
            Owner member = new Owner();
            member.flags = u2();
            readNameAndType(member, areMethods ? METHOD_NAME : MEMBER_NAME, areMethods ? METHOD_TYPE : FIELD_TYPE);
            boolean right = areMethods ? methodFlags(member.name, member.flags) : fieldFlags(member.flags);
            must(right, ClassFileReader.FLAGS, start);
            must(earlier.add(member.name + ";" + member.type), ClassFileReader.TWICE, start);
            members.add(member);
            readAttributes(member, areMethods ? "method" : "field");
        }
    }

    private void readNameAndType(Owner owner, Pattern name, Pattern type) {
        int start = at;
        owner.name = text(u2());
        owner.type = text(u2());
        must(owner.name != null, ClassFileReader.INDEX, start);
        must(owner.type != null, ClassFileReader.INDEX, start + 2);
        must(fits(name, owner.name), ClassFileReader.NAME, start);
        must(fits(type, owner.type), ClassFileReader.TYPE, start + 2);
    }

    private boolean oneReach(int flags) {
        int reaches = (set(flags, 1) ? 1 : 0) + (set(flags, 2) ? 1 : 0) + (set(flags, 4) ? 1 : 0);
        return reaches < 2;
    }

    private boolean fieldFlags(int flags) {
        boolean inInterface = set(file.flags, 512);
        return oneReach(flags) && !set(flags, 16 + 64) && (!inInterface || set(flags, 1 + 8 + 16));
    }

    private boolean none(int flags, int... bits) {
        for (int bit : bits) {
            if (set(flags, bit)) {
                return false;
            }
        }
        return true;
    }

    private boolean methodFlags(String name, int flags) {
        if (name.equals("<clinit>")) {
            return true;
        }
        if (!oneReach(flags)) {
            return false;
        }
        if (set(flags, 1024) && !none(flags, 2, 8, 16, 32, 256)) {
            return false;
        }
        if (name.equals("<init>") && !none(flags, 8, 16, 32, 256, 1024)) {
            return false;
        }
        return !set(file.flags, 512) || (set(flags, 1) ^ set(flags, 2));
    }

    private void readAttributes(Owner owner, String kind) {
        int count = u2();
        for (int i = 0; i < count; i++) {
            int start = at;
            String name = text(u2());
            must(name != null, ClassFileReader.INDEX, start);
            long length = take(4);
            if (!knows(kind, name)) {
                must(bytes.length - at >= length, ClassFileReader.SHORT, bytes.length);
                at += (int) length;
                continue;
            }
            must(owner.seen.add(name), ClassFileReader.TWICE, start);
            readKnown(owner, name, length);
        }
    }

    private static boolean knows(String kind, String name) {
        Map<String, String> where = Map.of("Signature", "field method component file", "Deprecated",
            "field method component file", "ConstantValue", "field", "Exceptions", "method", "InnerClasses", "file",
            "NestMembers", "file", "PermittedSubclasses", "file", "NestHost", "file", "Record", "file");
        return where.getOrDefault(name, "").contains(kind);
    }

    private void readKnown(Owner owner, String name, long length) {
        int lengthPlace = at - 4;
        switch (name) {
            case "Signature":
                must(length == 2, ClassFileReader.LENGTH, lengthPlace);
                owner.signature = text(named(1, false));
                break;
            case "Deprecated":
                must(length == 0, ClassFileReader.LENGTH, lengthPlace);
                owner.deprecated = true;
                break;
            case "ConstantValue":
                must(length == 2, ClassFileReader.LENGTH, lengthPlace);
                owner.constant = constantOf(named(constantTag(owner.type), false));
                break;
            case "NestHost":
                must(length == 2, ClassFileReader.LENGTH, lengthPlace);
                host = className(named(7, false));
                break;
            case "Exceptions":
                owner.exceptions = new ArrayList<>();
                readClasses(owner.exceptions, length, lengthPlace);
                break;
            case "NestMembers":
                readClasses(nestMembers, length, lengthPlace);
                break;
            case "PermittedSubclasses":
                readClasses(permitted, length, lengthPlace);
                break;
            case "InnerClasses":
                readInnerClasses(length, lengthPlace);
                break;
            default:
                readRecord(length, lengthPlace);
        }
    }

    private int named(int tag, boolean orNone) {
        int item = at;
        int index = u2();
        must(is(index, tag) || orNone && index == 0, ClassFileReader.INDEX, item);
        return index;
    }

    private static int constantTag(String type) {
        Map<String, Integer> tags = Map.of("I", 3, "S", 3, "C", 3, "B", 3, "Z", 3, "F", 4, "J", 5, "D", 6,
            "Ljava/lang/String;", 8);
        return tags.getOrDefault(type, 99);
    }

    private long constantOf(int index) {
        Entry entry = pool.get(index);
        if (entry.tag == 8) {
            return text(entry.first).length();
        }
        boolean near = entry.value < ClassFileReader.NONE && entry.value > -ClassFileReader.NONE;
        return near ? entry.value : ClassFileReader.NONE;
    }

    private int readCount(long length, int lengthPlace, int size) {
        must(length >= 2, ClassFileReader.LENGTH, lengthPlace);
        int count = u2();
        must(length == 2 + (long) count * size, ClassFileReader.LENGTH, lengthPlace);
        return count;
    }

    private void readClasses(List<String> classes, long length, int lengthPlace) {
        int count = readCount(length, lengthPlace, 2);
        for (int i = 0; i < count; i++) {
            classes.add(className(named(7, false)));
        }
    }

    private void readInnerClasses(long length, int lengthPlace) {
        int count = readCount(length, lengthPlace, 8);
        for (int i = 0; i < count; i++) {
            String name = className(named(7, false));
            String outer = className(named(7, true));
            String simple = text(named(1, true));
            innerClasses.add(new InnerClass(name, outer, simple, u2()));
        }
    }

    private void readRecord(long length, int lengthPlace) {
        int content = at;
        must(length >= 2, ClassFileReader.LENGTH, lengthPlace);
        int count = u2();
        must(count <= 16, ClassFileReader.COUNT, content);
        for (int i = 0; i < count; i++) {
            Owner component = new Owner();
            readNameAndType(component, MEMBER_NAME, FIELD_TYPE);
            components.add(component);
            readAttributes(component, "component");
        }
        must(length == at - content, ClassFileReader.LENGTH, lengthPlace);
        record = true;
    }
}
