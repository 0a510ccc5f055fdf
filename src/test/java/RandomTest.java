import java.util.Arrays;
import java.util.List;
import java.util.Random;

/** Promises 5 to 13 on many files, right and damaged, held against the Model; the seeds are always the same. */
public final class RandomTest {
    private static final Check check = new Check();
    private static final String[] ATTRIBUTES = {"Signature", "Deprecated", "ConstantValue", "Exceptions",
        "InnerClasses", "NestMembers", "PermittedSubclasses", "NestHost", "Record", "Code"};
    private static final String[] TYPES = {"I", "J", "F", "D", "Z", "[I", "La;", "Ljava/lang/String;",
        "()V", "(I)J", "V", ""};
    private static final String[] NAMES = {"a", "b", "a/b", "<init>", "<clinit>", "[I", "x.y", "c"};
    private static final int FILES = 6000;
    private static final int DAMAGED = 40;

    private static Random random;
    private static final int[] codes = new int[13];

    public static void main(String[] args) {
        for (int seed = 0; seed < FILES; seed++) {
            random = new Random(seed);
            byte[] bytes = file();
            if (bytes.length > 480) {
                continue;
            }
            Model mirror = compare("file " + seed, FileBytes.readerOf(bytes), bytes, null);
            for (int i = 0; i < DAMAGED; i++) {
                byte[] damaged = damage(bytes);
                ClassFileReader x = FileBytes.readerOf(bytes);
                x.read();
                x.drop();
                FileBytes.putAll(x, damaged);
                Model after = compare("file " + seed + " damage " + i, x, damaged, mirror);
                if (after != mirror && chance(50)) {
                    bytes = damaged;
                    mirror = after;
                }
            }
        }
        System.out.println("codes: " + Arrays.toString(codes));
        for (int code = 0; code < codes.length; code++) {
            check.due("code " + code + " has come up", codes[code] > 0 ? 1 : 0, 1);
        }
        check.end();
    }

    private static boolean chance(int percent) {
        return random.nextInt(100) < percent;
    }

    private static byte[] damage(byte[] bytes) {
        byte[] damaged = bytes.clone();
        int what = random.nextInt(12);
        if (what == 0 && bytes.length > 0) {
            damaged = Arrays.copyOf(bytes, random.nextInt(bytes.length));
        } else if (what == 1 && bytes.length < 479) {
            damaged = Arrays.copyOf(bytes, bytes.length + 1);
        } else if (bytes.length > 0) {
            int changes = 1 + random.nextInt(2);
            for (int i = 0; i < changes; i++) {
                int from = chance(70) ? Math.min(bytes.length - 1, 120) : 0;
                int place = from + random.nextInt(bytes.length - from);
                damaged[place] = (byte) (chance(50) ? damaged[place] + random.nextInt(5) - 2
                    : chance(80) ? random.nextInt(30) : random.nextInt(256));
            }
        }
        return damaged;
    }

    private static int pick(int... some) {
        return some[random.nextInt(some.length)];
    }

    private static int[] attributes;
    private static int[] types;
    private static int[] names;
    private static int[] classes;
    private static int[] values;

    /** A file that is right more often than not. */
    private static byte[] file() {
        FileBytes file = FileBytes.start();
        file.set2(6, 45 + random.nextInt(21));
        classes = new int[3];
        for (int i = 0; i < 3; i++) {
            classes[i] = file.classOf(chance(96) ? "c" + i : NAMES[random.nextInt(NAMES.length)]);
        }
        attributes = textsOf(file, ATTRIBUTES, 4);
        types = new int[] {file.text("I"), file.text(TYPES[random.nextInt(8)])};
        values = new int[] {file.word(FileBytes.INT, random.nextInt()), value(file)};
        int type = file.text(chance(80) ? "()V" : TYPES[random.nextInt(TYPES.length)]);
        String second = chance(90) ? "g" : NAMES[random.nextInt(NAMES.length)];
        names = new int[] {file.text("f"), file.text(second), file.text("<init>")};
        if (chance(30)) {
            int both = file.two(FileBytes.NAMETYPE, names[random.nextInt(3)], pick(types[0], type));
            file.two(pick(9, 10, 11), classes[0], both);
        }
        file.endPool();
        boolean inInterface = chance(20);
        int[] interfaces = Arrays.copyOf(classes, pick(0, 0, 0, 1, 2, 3));
        int flags = inInterface ? 1536 : pick(33, 1, 1056, 17);
        file.header(flags, classes[0], pick(0, classes[1], classes[2]), interfaces);
        int fields = random.nextInt(3);
        file.u2(fields);
        for (int k = 0; k < fields; k++) {
            file.member(inInterface ? 25 : pick(0, 1, 2, 4, 17, 64), names[k], pick(types), 0);
            addAttributes(file, 0);
        }
        int methods = random.nextInt(4);
        file.u2(methods);
        for (int k = 0; k < methods; k++) {
            file.member(inInterface ? pick(1, 2, 1025) : pick(0, 1, 2, 4), names[k], type, 0);
            addAttributes(file, 1);
        }
        file.u2(0);
        addAttributes(file, 3);
        return file.toBytes();
    }

    private static int value(FileBytes file) {
        switch (random.nextInt(4)) {
            case 0:
                return file.word(FileBytes.FLOAT, random.nextInt());
            case 1:
                return file.wide(FileBytes.LONG, random.nextLong() >> random.nextInt(64));
            case 2:
                return file.wide(FileBytes.DOUBLE, random.nextLong() >> random.nextInt(64));
            default:
                return file.one(FileBytes.STRING, 1);
        }
    }

    private static int[] textsOf(FileBytes file, String[] all, int count) {
        int[] texts = new int[all.length];
        for (int i = 0; i < count; i++) {
            int which = random.nextInt(all.length);
            texts[which] = texts[which] != 0 ? texts[which] : file.text(all[which]);
        }
        return texts;
    }

    /** Adds attributes behind a count of 0 that has just been written, and corrects it. */
    private static void addAttributes(FileBytes file, int kind) {
        int countPlace = file.size() - 2;
        int count = 0;
        for (int i = 0; i < attributes.length; i++) {
            if (attributes[i] != 0 && chance(60)) {
                count += addAttribute(file, kind, i);
            }
        }
        file.set2(countPlace, count);
    }

    private static int addAttribute(FileBytes file, int kind, int which) {
        int name = attributes[which];
        switch (ATTRIBUTES[which]) {
            case "Signature":
                file.attribute(name, pick(names));
                return 1;
            case "ConstantValue":
                if (kind == 0 && chance(30)) {
                    return 0;
                }
                file.attribute(name, pick(values));
                return 1;
            case "Exceptions":
            case "NestMembers":
            case "PermittedSubclasses":
                file.attribute(name, 2, pick(classes), pick(classes));
                return 1;
            case "InnerClasses":
                file.attribute(name, 1, pick(classes), pick(0, classes[1]), pick(0, names[0]), random.nextInt(65536));
                return 1;
            case "NestHost":
                file.attribute(name, pick(classes));
                return 1;
            case "Record":
                return addRecord(file, kind);
            default:
                file.attribute(name);
                return 1;
        }
    }

    private static int addRecord(FileBytes file, int kind) {
        if (kind != 3) {
            return 0;
        }
        int record = 0;
        for (int i = 0; i < ATTRIBUTES.length; i++) {
            record = ATTRIBUTES[i].equals("Record") ? attributes[i] : record;
        }
        file.u2(record);
        int length = file.u4(0);
        int count = random.nextInt(3);
        file.u2(count);
        for (int k = 0; k < count; k++) {
            file.u2(names[0]);
            file.u2(pick(types));
            file.u2(0);
            addAttributes(file, 2);
        }
        file.set2(length + 2, file.size() - length - 4);
        return 1;
    }

    /** Reads, and asks everything; answers the model of the mirror that there is now. */
    private static Model compare(String what, ClassFileReader x, byte[] bytes, Model before) {
        Model model = new Model(bytes);
        codes[model.code]++;
        check.dueRead(what, x, model.code, model.place);
        Model mirror = model.code == 0 ? model : before;
        if (mirror != null && (model.code == 0 || chance(5))) {
            ask(what, x, mirror);
        }
        return mirror;
    }

    private static void ask(String what, ClassFileReader x, Model m) {
        int[] numbers = {m.major, m.file.flags, m.n, m.interfaces.size(), m.fields.size(), m.methods.size(),
            m.innerClasses.size(), m.nestMembers.size(), m.permitted.size(), m.components.size(),
            m.file.deprecated ? 1 : 0, m.record ? 1 : 0};
        for (int i = 0; i < numbers.length; i++) {
            check.due(what + ": number(" + i + ")", x.number(i), numbers[i]);
        }
        check.dueText(x, 0, 0, m.self);
        check.dueText(x, 1, 0, m.parent);
        check.dueText(x, 9, 0, m.file.signature);
        check.dueText(x, 16, 0, m.host);
        askList(x, 2, m.interfaces);
        askList(x, 17, m.nestMembers);
        askList(x, 18, m.permitted);
        askOwners(what, x, 0, m.fields, 3, 7);
        askOwners(what, x, 1, m.methods, 5, 8);
        askOwners(what, x, 2, m.components, 10, 12);
        for (int k = 0; k < m.innerClasses.size(); k++) {
            check.dueText(x, 13, k, m.innerClasses.get(k).name());
            check.dueText(x, 14, k, m.innerClasses.get(k).outer());
            check.dueText(x, 15, k, m.innerClasses.get(k).simple());
            check.due(what + ": flags(2, " + k + ")", x.flags(2, k), m.innerClasses.get(k).flags());
        }
        check.due(what + ": flags(2)", x.flags(2, m.innerClasses.size()), ClassFileReader.REFUSED);
        check.due(what + ": constant", x.constant(m.fields.size()), ClassFileReader.NONE);
        check.due(what + ": exceptions", x.exceptions(m.methods.size()), ClassFileReader.REFUSED);
    }

    private static void askList(ClassFileReader x, int kind, List<String> texts) {
        for (int k = 0; k < texts.size(); k++) {
            check.dueText(x, kind, k, texts.get(k));
        }
        check.dueText(x, kind, -1, null);
        check.dueText(x, kind, texts.size(), null);
    }

    private static void askOwners(String what, ClassFileReader x, int kind, List<Model.Owner> owners, int name,
        int signature) {
        for (int k = 0; k < owners.size(); k++) {
            Model.Owner owner = owners.get(k);
            check.dueText(x, name, k, owner.name);
            check.dueText(x, name + 1, k, owner.type);
            check.dueText(x, signature, k, owner.signature);
            check.due(what + ": deprecated(" + kind + ", " + k + ")", x.deprecated(kind, k), owner.deprecated ? 1 : 0);
            if (kind != 2) {
                check.due(what + ": flags(" + kind + ", " + k + ")", x.flags(kind, k), owner.flags);
            }
            if (kind == 0) {
                check.due(what + ": constant(" + k + ")", x.constant(k), owner.constant);
            }
            if (kind == 1) {
                askExceptions(what, x, k, owner.exceptions);
            }
        }
        check.dueText(x, name, owners.size(), null);
        check.due(what + ": deprecated", x.deprecated(kind, owners.size()), ClassFileReader.REFUSED);
    }

    private static void askExceptions(String what, ClassFileReader x, int k, List<String> exceptions) {
        check.due(what + ": exceptions(" + k + ")", x.exceptions(k), exceptions.size());
        for (int e = 0; e < exceptions.size(); e++) {
            for (int i = 0; i < exceptions.get(e).length(); i++) {
                check.due(what + ": exception", x.exception(k, e, i), exceptions.get(e).charAt(i));
            }
        }
        check.due(what + ": exception", x.exception(k, exceptions.size(), 0), -1);
    }
}
