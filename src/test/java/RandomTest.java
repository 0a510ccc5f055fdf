import java.util.Arrays;
import java.util.List;

/** Promises 5 to 13 on many files, right and damaged, held against the Model; the seeds are always the same. */
public final class RandomTest {
    private static final Check check = new Check();
    private static final int FILES = 6000;
    private static final int DAMAGED = 40;

    private static RandomFiles random;
    private static final int[] codes = new int[13];

    public static void main(String[] args) {
        for (int seed = 0; seed < FILES; seed++) {
            random = new RandomFiles(seed);
            byte[] bytes = random.file();
            if (bytes.length > 480) {
                continue;
            }
            Model mirror = compare("file " + seed, FileBytes.readerOf(bytes), bytes, null);
            for (int i = 0; i < DAMAGED; i++) {
                byte[] damaged = random.damage(bytes);
                ClassFileReader x = FileBytes.readerOf(bytes);
                x.read();
                x.drop();
                FileBytes.putAll(x, damaged);
                Model after = compare("file " + seed + " damage " + i, x, damaged, mirror);
                if (after != mirror && random.chance(50)) {
                    bytes = damaged;
                    mirror = after;
                }
            }
        }
        System.out.println("codes: " + Arrays.toString(codes));
        for (int code = 0; code < codes.length; code++) {
            check.due("code " + code + " has come up", codes[code] > 0 ? 1 : 0, 1);
        }
        check.end();
    }

    /** Reads, and asks everything; answers the model of the mirror that there is now. */
    private static Model compare(String what, ClassFileReader x, byte[] bytes, Model before) {
        Model model = new Model(bytes);
        codes[model.code]++;
        check.dueRead(what, x, model.code, model.place);
        Model mirror = model.code == 0 ? model : before;
        if (mirror != null && (model.code == 0 || random.chance(5))) {
            ask(what, x, mirror);
        }
        return mirror;
    }

    private static void ask(String what, ClassFileReader x, Model m) {
        int[] numbers = {m.major, m.file.flags, m.n, m.interfaces.size(), m.fields.size(), m.methods.size(),
            m.innerClasses.size(), m.nestMembers.size(), m.permitted.size(), m.components.size(),
            m.file.deprecated ? 1 : 0, m.record ? 1 : 0};
        for (int i = 0; i < numbers.length; i++) {
            check.due(what + ": number(" + i + ")", x.number(i), numbers[i]);
        }
        check.dueText(x, 0, 0, m.self);
        check.dueText(x, 1, 0, m.parent);
        check.dueText(x, 9, 0, m.file.signature);
        check.dueText(x, 16, 0, m.host);
        askList(x, 2, m.interfaces);
        askList(x, 17, m.nestMembers);
        askList(x, 18, m.permitted);
        askOwners(what, x, 0, m.fields, 3, 7);
        askOwners(what, x, 1, m.methods, 5, 8);
        askOwners(what, x, 2, m.components, 10, 12);
        for (int k = 0; k < m.innerClasses.size(); k++) {
            check.dueText(x, 13, k, m.innerClasses.get(k).name());
            check.dueText(x, 14, k, m.innerClasses.get(k).outer());
            check.dueText(x, 15, k, m.innerClasses.get(k).simple());
            check.due(what + ": flags(2, " + k + ")", x.flags(2, k), m.innerClasses.get(k).flags());
        }
        check.due(what + ": flags(2)", x.flags(2, m.innerClasses.size()), ClassFileReader.REFUSED);
        check.due(what + ": constant", x.constant(m.fields.size()), ClassFileReader.NONE);
        check.due(what + ": exceptions", x.exceptions(m.methods.size()), ClassFileReader.REFUSED);
    }

    private static void askList(ClassFileReader x, int kind, List<String> texts) {
        for (int k = 0; k < texts.size(); k++) {
            check.dueText(x, kind, k, texts.get(k));
        }
        check.dueText(x, kind, -1, null);
        check.dueText(x, kind, texts.size(), null);
    }

    private static void askOwners(String what, ClassFileReader x, int kind, List<Model.Owner> owners, int name,
        int signature) {
        for (int k = 0; k < owners.size(); k++) {
            Model.Owner owner = owners.get(k);
            check.dueText(x, name, k, owner.name);
            check.dueText(x, name + 1, k, owner.type);
            check.dueText(x, signature, k, owner.signature);
            check.due(what + ": deprecated(" + kind + ", " + k + ")", x.deprecated(kind, k), owner.deprecated ? 1 : 0);
            if (kind != 2) {
                check.due(what + ": flags(" + kind + ", " + k + ")", x.flags(kind, k), owner.flags);
            }
            if (kind == 0) {
                check.due(what + ": constant(" + k + ")", x.constant(k), owner.constant);
            }
            if (kind == 1) {
                askExceptions(what, x, k, owner.exceptions);
            }
        }
        check.dueText(x, name, owners.size(), null);
        check.due(what + ": deprecated", x.deprecated(kind, owners.size()), ClassFileReader.REFUSED);
    }

    private static void askExceptions(String what, ClassFileReader x, int k, List<String> exceptions) {
        check.due(what + ": exceptions(" + k + ")", x.exceptions(k), exceptions.size());
        for (int e = 0; e < exceptions.size(); e++) {
            for (int i = 0; i < exceptions.get(e).length(); i++) {
                check.due(what + ": exception", x.exception(k, e, i), exceptions.get(e).charAt(i));
            }
        }
        check.due(what + ": exception", x.exception(k, exceptions.size(), 0), -1);
    }
}
