import java.util.Arrays;
import java.util.List;

/** The whole face over the Model: what each call of an object is due to answer. */
final class ModelReader {
    private static final int REFUSED = ClassFileReader.REFUSED;

    private byte[] bytes = {};
    private int place = -1;
    private Model mirror = null;

    int size() {
        return bytes.length;
    }

    int put(long value, int n) {
        int size = bytes.length;
        if (n < 1 || n > 8 || size + n > 480) {
            return REFUSED;
        }
        bytes = Arrays.copyOf(bytes, size + n);
        long rest = value;
        for (int i = size + n - 1; i >= size; i--) {
            bytes[i] = (byte) rest;
            rest = Math.floorDiv(rest, 256L);
        }
        return bytes.length;
    }

    int patch(int at, int value) {
        if (at < 0 || at >= bytes.length || value < 0 || value > 255) {
            return REFUSED;
        }
        int before = Byte.toUnsignedInt(bytes[at]);
        bytes[at] = (byte) value;
        return before;
    }

    int drop() {
        int before = bytes.length;
        bytes = new byte[0];
        return before;
    }

    int read() {
        Model model = new Model(bytes.clone());
        place = model.place;
        mirror = model.code == 0 ? model : mirror;
        return model.code;
    }

    int place() {
        return place;
    }

    int number(int what) {
        if (mirror == null || what < 0 || what > 11) {
            return REFUSED;
        }
        Model m = mirror;
        int[] numbers = {m.major, m.file.flags, m.n, m.interfaces.size(), m.fields.size(), m.methods.size(),
            m.innerClasses.size(), m.nestMembers.size(), m.permitted.size(), m.components.size(),
            m.file.deprecated ? 1 : 0, m.record ? 1 : 0};
        return numbers[what];
    }

    private static <T> T get(List<T> list, int k) {
        return k >= 0 && k < list.size() ? list.get(k) : null;
    }

    private Model.Owner owner(int kind, int k) {
        if (mirror == null || kind < 0 || kind > 2) {
            return null;
        }
        return get(List.of(mirror.fields, mirror.methods, mirror.components).get(kind), k);
    }

    int flags(int kind, int k) {
        if (kind == 2) {
            Model.InnerClass inner = mirror == null ? null : get(mirror.innerClasses, k);
            return inner == null ? REFUSED : inner.flags();
        }
        Model.Owner owner = owner(kind, k);
        return owner == null ? REFUSED : owner.flags;
    }

    private static int character(String text, int index) {
        return text == null || index < 0 || index >= text.length() ? -1 : text.charAt(index);
    }

    int text(int kind, int k, int index) {
        return mirror == null ? -1 : character(kind >= 13 ? classText(kind, k) : memberText(kind, k), index);
    }

    private String memberText(int kind, int k) {
        int[] owners = {-1, -1, -1, 0, 0, 1, 1, 0, 1, -1, 2, 2, 2};
        Model.Owner owner = kind < 0 || owners[kind] < 0 ? null : owner(owners[kind], k);
        switch (kind) {
            case 0:
                return mirror.self;
            case 1:
                return mirror.parent;
            case 2:
                return get(mirror.interfaces, k);
            case 3:
            case 5:
            case 10:
                return owner == null ? null : owner.name;
            case 4:
            case 6:
            case 11:
                return owner == null ? null : owner.type;
            case 9:
                return mirror.file.signature;
            default:
                return owner == null ? null : owner.signature;
        }
    }

    private String classText(int kind, int k) {
        Model.InnerClass inner = get(mirror.innerClasses, k);
        switch (kind) {
            case 13:
                return inner == null ? null : inner.name();
            case 14:
                return inner == null ? null : inner.outer();
            case 15:
                return inner == null ? null : inner.simple();
            case 16:
                return mirror.host;
            case 17:
                return get(mirror.nestMembers, k);
            case 18:
                return get(mirror.permitted, k);
            default:
                return null;
        }
    }

    int exceptions(int k) {
        Model.Owner method = owner(1, k);
        return method == null ? REFUSED : method.exceptions.size();
    }

    int exception(int k, int e, int index) {
        Model.Owner method = owner(1, k);
        return method == null ? -1 : character(get(method.exceptions, e), index);
    }

    long constant(int k) {
        Model.Owner field = owner(0, k);
        return field == null ? ClassFileReader.NONE : field.constant;
    }

    int deprecated(int kind, int k) {
        Model.Owner owner = owner(kind, k);
        return owner == null ? REFUSED : owner.deprecated ? 1 : 0;
    }
}
