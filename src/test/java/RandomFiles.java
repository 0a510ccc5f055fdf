import java.util.Arrays;
import java.util.Random;

/** Makes class files, most of them right, and damages them; the same seed always makes the same. */
final class RandomFiles {
    private static final String[] ATTRIBUTES = {"Signature", "Deprecated", "ConstantValue", "Exceptions",
        "InnerClasses", "NestMembers", "PermittedSubclasses", "NestHost", "Record", "Code"};
    private static final String[] TYPES = {"I", "J", "F", "D", "Z", "[I", "La;", "Ljava/lang/String;",
        "()V", "(I)J", "V", ""};
    private static final String[] NAMES = {"a", "b", "a/b", "<init>", "<clinit>", "[I", "x.y", "c"};

    private final Random random;
    private int[] attributes;
    private int[] types;
    private int[] names;
    private int[] classes;
    private int[] values;

    RandomFiles(long seed) {
        random = new Random(seed);
    }

    int below(int bound) {
        return random.nextInt(bound);
    }

    boolean chance(int percent) {
        return random.nextInt(100) < percent;
    }

    byte[] damage(byte[] bytes) {
        byte[] damaged = bytes.clone();
        int what = random.nextInt(12);
        if (what == 0 && bytes.length > 0) {
            damaged = Arrays.copyOf(bytes, random.nextInt(bytes.length));
        } else if (what == 1 && bytes.length < 479) {
            damaged = Arrays.copyOf(bytes, bytes.length + 1);
        } else if (bytes.length > 0) {
            int changes = 1 + random.nextInt(2);
            for (int i = 0; i < changes; i++) {
                int from = chance(70) ? Math.min(bytes.length - 1, 120) : 0;
                int place = from + random.nextInt(bytes.length - from);
                damaged[place] = (byte) (chance(50) ? damaged[place] + random.nextInt(5) - 2
                    : chance(80) ? random.nextInt(30) : random.nextInt(256));
            }
        }
        return damaged;
    }

    private int pick(int... some) {
        return some[random.nextInt(some.length)];
    }

    /** A file that is right more often than not. */
    byte[] file() {
        FileBytes file = FileBytes.start();
        file.set2(6, 45 + random.nextInt(21));
        classes = new int[3];
        for (int i = 0; i < 3; i++) {
            classes[i] = file.classOf(chance(96) ? "c" + i : NAMES[random.nextInt(NAMES.length)]);
        }
        attributes = textsOf(file, ATTRIBUTES, 4);
        types = new int[] {file.text("I"), file.text(TYPES[random.nextInt(8)])};
        values = new int[] {file.word(FileBytes.INT, random.nextInt()), value(file)};
        int type = file.text(chance(80) ? "()V" : TYPES[random.nextInt(TYPES.length)]);
        String second = chance(90) ? "g" : NAMES[random.nextInt(NAMES.length)];
        names = new int[] {file.text("f"), file.text(second), file.text("<init>")};
        if (chance(30)) {
            int both = file.two(FileBytes.NAMETYPE, names[random.nextInt(3)], pick(types[0], type));
            file.two(pick(9, 10, 11), classes[0], both);
        }
        file.endPool();
        boolean inInterface = chance(20);
        int[] interfaces = Arrays.copyOf(classes, pick(0, 0, 0, 1, 2, 3));
        int flags = inInterface ? 1536 : pick(33, 1, 1056, 17);
        file.header(flags, classes[0], pick(0, classes[1], classes[2]), interfaces);
        int fields = random.nextInt(3);
        file.u2(fields);
        for (int k = 0; k < fields; k++) {
            file.member(inInterface ? 25 : pick(0, 1, 2, 4, 17, 64), names[k], pick(types), 0);
            addAttributes(file, 0);
        }
        int methods = random.nextInt(4);
        file.u2(methods);
        for (int k = 0; k < methods; k++) {
            file.member(inInterface ? pick(1, 2, 1025) : pick(0, 1, 2, 4), names[k], type, 0);
            addAttributes(file, 1);
        }
        file.u2(0);
        addAttributes(file, 3);
        return file.toBytes();
    }

    private int value(FileBytes file) {
        switch (random.nextInt(4)) {
            case 0:
                return file.word(FileBytes.FLOAT, random.nextInt());
            case 1:
                return file.wide(FileBytes.LONG, random.nextLong() >> random.nextInt(64));
            case 2:
                return file.wide(FileBytes.DOUBLE, random.nextLong() >> random.nextInt(64));
            default:
                return file.one(FileBytes.STRING, 1);
        }
    }

    private int[] textsOf(FileBytes file, String[] all, int count) {
        int[] texts = new int[all.length];
        for (int i = 0; i < count; i++) {
            int which = random.nextInt(all.length);
            texts[which] = texts[which] != 0 ? texts[which] : file.text(all[which]);
        }
        return texts;
    }

    /** Adds attributes behind a count of 0 that has just been written, and corrects it. */
    private void addAttributes(FileBytes file, int kind) {
        int countPlace = file.size() - 2;
        int count = 0;
        for (int i = 0; i < attributes.length; i++) {
            if (attributes[i] != 0 && chance(60)) {
                count += addAttribute(file, kind, i);
            }
        }
        file.set2(countPlace, count);
    }

    private int addAttribute(FileBytes file, int kind, int which) {
        int name = attributes[which];
        switch (ATTRIBUTES[which]) {
            case "Signature":
                file.attribute(name, pick(names));
                return 1;
            case "ConstantValue":
                if (kind == 0 && chance(30)) {
                    return 0;
                }
                file.attribute(name, pick(values));
                return 1;
            case "Exceptions":
            case "NestMembers":
            case "PermittedSubclasses":
                file.attribute(name, 2, pick(classes), pick(classes));
                return 1;
            case "InnerClasses":
                file.attribute(name, 1, pick(classes), pick(0, classes[1]), pick(0, names[0]), random.nextInt(65536));
                return 1;
            case "NestHost":
                file.attribute(name, pick(classes));
                return 1;
            case "Record":
                return addRecord(file, kind);
            default:
                file.attribute(name);
                return 1;
        }
    }

    private int addRecord(FileBytes file, int kind) {
        if (kind != 3) {
            return 0;
        }
        int record = 0;
        for (int i = 0; i < ATTRIBUTES.length; i++) {
            record = ATTRIBUTES[i].equals("Record") ? attributes[i] : record;
        }
        file.u2(record);
        int length = file.u4(0);
        int count = random.nextInt(3);
        file.u2(count);
        for (int k = 0; k < count; k++) {
            file.u2(names[0]);
            file.u2(pick(types));
            file.u2(0);
            addAttributes(file, 2);
        }
        file.set2(length + 2, file.size() - length - 4);
        return 1;
    }
}
