import java.util.Arrays;
import java.util.HexFormat;

/**
 * Promises 5 to 13 on files that no test has made: what javac 17 writes with -g:none for the sources told here.
 */
public final class CompilerFilesTest {
    private static final Check check = new Check();

    /** sealed interface Shape permits Disc, Box {} */
    private static final String SHAPE =
        "cafebabe0000003d000a07000201000553686170650700040100106a6176612f6c616e672f4f626a6563740100135065"
        + "726d6974746564537562636c617373657307000701000444697363070009010003426f78060000010003000000000000"
        + "0001000500000006000200060008";

    /** {@literal @}interface Mark { int value(); } */
    private static final String MARK =
        "cafebabe0000003d00090700020100044d61726b0700040100106a6176612f6c616e672f4f626a65637407000601001f"
        + "6a6176612f6c616e672f616e6e6f746174696f6e2f416e6e6f746174696f6e01000576616c7565010003282949260000"
        + "010003000100050000000104010007000800000000";

    /** abstract class Held<T extends Comparable<T>> implements java.util.List<T> {} */
    private static final String HELD =
        "cafebabe0000003d000e0a000200030700040c000500060100106a6176612f6c616e672f4f626a6563740100063c696e"
        + "69743e01000328295607000801000448656c6407000a01000e6a6176612f7574696c2f4c697374010004436f64650100"
        + "095369676e61747572650100473c543a3a4c6a6176612f6c616e672f436f6d70617261626c653c54543b3e3b3e4c6a61"
        + "76612f6c616e672f4f626a6563743b4c6a6176612f7574696c2f4c6973743c54543b3e3b042000070002000100090000"
        + "00010000000500060001000b0000001100010001000000052ab70001b1000000000001000c00000002000d";

    /**
     * class Consts { static final long L = 4294967298L; static final String S = "abc"; static final float F = 1.5f;
     * final boolean z = true; static final double D = -0.0; static final byte B = -3; }
     */
    private static final String CONSTS =
        "cafebabe0000003d001f0a000200030700040c000500060100106a6176612f6c616e672f4f626a6563740100063c696e"
        + "69743e010003282956090008000907000a0c000b000c010006436f6e7374730100017a0100015a0100014c0100014a01"
        + "000d436f6e7374616e7456616c7565050000000100000002010001530100124c6a6176612f6c616e672f537472696e67"
        + "3b08001501000361626301000146043fc000000300000001010001440680000000000000000100014203fffffffd0100"
        + "04436f6465002000080002000000060018000d000e0001000f0000000200100018001200130001000f00000002001400"
        + "18001600160001000f0000000200170010000b000c0001000f0000000200180018001900190001000f00000002001a00"
        + "18001c001c0001000f00000002001d00010000000500060001001e00000016000200010000000a2ab700012a04b50007"
        + "b1000000000000";

    /**
     * class Thrower { @Deprecated void m() throws java.io.IOException, InterruptedException {}
     * native int[] n(String s, long[][] x); }
     */
    private static final String THROWER =
        "cafebabe0000003d00150a000200030700040c000500060100106a6176612f6c616e672f4f626a6563740100063c696e"
        + "69743e0100032829560700080100075468726f776572010004436f64650100016d01000a457863657074696f6e730700"
        + "0d0100136a6176612f696f2f494f457863657074696f6e07000f01001e6a6176612f6c616e672f496e74657272757074"
        + "6564457863657074696f6e01000a4465707265636174656401001952756e74696d6556697369626c65416e6e6f746174"
        + "696f6e730100164c6a6176612f6c616e672f446570726563617465643b0100016e010019284c6a6176612f6c616e672f"
        + "537472696e673b5b5b4a295b49002000070002000000000003000000050006000100090000001100010001000000052a"
        + "b70001b1000000000000000a0006000400090000000d0000000100000001b100000000000b000000060002000c000e00"
        + "100000000000110000000600010012000001000013001400000000";

    /** class Outer { class In {} static class St {} interface If { int X = 7; default void d() {} } } */
    private static final String OUTER =
        "cafebabe0000003d00150a000200030700040c000500060100106a6176612f6c616e672f4f626a6563740100063c696e"
        + "69743e0100032829560700080100054f75746572010004436f646501000b4e6573744d656d6265727307000c0100084f"
        + "7574657224496607000e0100084f757465722453740700100100084f7574657224496e01000c496e6e6572436c617373"
        + "657301000249660100025374010002496e00200007000200000000000100000005000600010009000000110001000100"
        + "0000052ab70001b1000000000002000a000000080003000b000d000f00110000001a0003000b000700120608000d0007"
        + "00130008000f000700140000";

    /** The interface If of Outer. */
    private static final String OUTER_IF =
        "cafebabe0000003d00110700020100084f757465722449660700040100106a6176612f6c616e672f4f626a6563740100"
        + "01580100014901000d436f6e7374616e7456616c7565030000000701000164010003282956010004436f64650100084e"
        + "657374486f737407000e0100054f7574657201000c496e6e6572436c6173736573010002496606000001000300000001"
        + "00190005000600010007000000020008000100010009000a0001000b0000000d0000000100000001b100000000000200"
        + "0c00000002000d000f0000000a00010001000d00100608";

    /** class Gen<T> { T t; java.util.List<? super T> l; <U> U u(U x) { return x; } } */
    private static final String GEN =
        "cafebabe0000003d00150a000200030700040c000500060100106a6176612f6c616e672f4f626a6563740100063c696e"
        + "69743e01000328295607000801000347656e010001740100124c6a6176612f6c616e672f4f626a6563743b0100095369"
        + "676e617475726501000354543b0100016c0100104c6a6176612f7574696c2f4c6973743b0100164c6a6176612f757469"
        + "6c2f4c6973743c2d54543b3e3b010004436f646501000175010026284c6a6176612f6c616e672f4f626a6563743b294c"
        + "6a6176612f6c616e672f4f626a6563743b01001e3c553a4c6a6176612f6c616e672f4f626a6563743b3e2854553b2954"
        + "553b0100283c543a4c6a6176612f6c616e672f4f626a6563743b3e4c6a6176612f6c616e672f4f626a6563743b002000"
        + "0700020000000200000009000a0001000b00000002000c0000000d000e0001000b00000002000f000200000005000600"
        + "0100100000001100010001000000052ab70001b100000000000000110012000200100000000e00010002000000022bb0"
        + "00000000000b0000000200130001000b000000020014";

    /** record P(int x), with methods toString, hashCode and equals of its own. */
    private static final String P =
        "cafebabe0000003d00170a000200030700040c000500060100106a6176612f6c616e672f5265636f72640100063c696e"
        + "69743e010003282956090008000907000a0c000b000c01000150010001780100014901000428492956010004436f6465"
        + "0100104d6574686f64506172616d6574657273010008746f537472696e6701001428294c6a6176612f6c616e672f5374"
        + "72696e673b01000868617368436f6465010003282949010006657175616c73010015284c6a6176612f6c616e672f4f62"
        + "6a6563743b295a0100065265636f7264003000080002000000010012000b000c0000000500000005000d0002000e0000"
        + "0016000200020000000a2ab700012a1bb50007b100000000000f0000000501000b00000001001000110001000e000000"
        + "0e000100010000000201b0000000000001001200130001000e0000000e000100010000000203ac000000000001001400"
        + "150001000e0000000e000100020000000203ac000000000001000b00130001000e0000001100010001000000052ab400"
        + "07ac0000000000010016000000080001000b000c0000";

    /** module m {} */
    private static final String MODULE =
        "cafebabe0000003d000907000201000b6d6f64756c652d696e666f0100064d6f64756c651300050100016d1300070100"
        + "096a6176612e6261736501000731372e302e313580000001000000000000000000010003000000160004000000000001"
        + "0006800000080000000000000000";
    public static void main(String[] args) {
        sealedInterface();
        annotation();
        genericClass();
        constants();
        thrower();
        outerClass();
        innerInterface();
        signatures();
        record();
        module();
        everyPrefixIsShort();
        everyByteMoreIsRest();
        check.end();
    }

    private static ClassFileReader readerOf(byte[] file) {
        ClassFileReader x = new ClassFileReader();
        for (byte b : file) {
            x.put(b, 1);
        }
        return x;
    }

    private static ClassFileReader soundReader(String hex) {
        ClassFileReader x = new ClassFileReader();
        byte[] file = HexFormat.of().parseHex(hex);
        // Eight bytes a call, since the texts take many of an object's 512 calls.
        for (int from = 0; from < file.length; from += 8) {
            int n = Math.min(8, file.length - from);
            long value = 0;
            for (int i = 0; i < n; i++) {
                value = value << 8 | file[from + i] & 255;
            }
            check.due("put", x.put(value, n), from + n);
        }
        check.dueRead("a compiler's file", x, 0, -1);
        return x;
    }

    private static void dueNumbers(ClassFileReader x, int... want) {
        for (int what = 0; what < want.length; what++) {
            check.due("number(" + what + ")", x.number(what), want[what]);
        }
    }

    private static void dueException(ClassFileReader x, int k, int e, String want) {
        for (int i = 0; i < want.length(); i++) {
            check.due("exception(" + k + ", " + e + ", " + i + ")", x.exception(k, e, i), want.charAt(i));
        }
        check.due("the exception's end", x.exception(k, e, want.length()), -1);
    }

    private static void sealedInterface() {
        ClassFileReader x = soundReader(SHAPE);
        dueNumbers(x, 61, 0x600, 10, 0, 0, 0, 0, 0, 2, 0, 0, 0);
        check.dueText(x, 0, 0, "Shape");
        check.dueText(x, 1, 0, "java/lang/Object");
        check.dueText(x, 18, 0, "Disc");
        check.dueText(x, 18, 1, "Box");
        check.dueText(x, 18, 2, null);
    }

    private static void annotation() {
        ClassFileReader x = soundReader(MARK);
        dueNumbers(x, 61, 0x2600, 9, 1, 0, 1, 0, 0, 0, 0, 0, 0);
        check.dueText(x, 2, 0, "java/lang/annotation/Annotation");
        check.dueText(x, 5, 0, "value");
        check.dueText(x, 6, 0, "()I");
        check.due("flags of value", x.flags(1, 0), 1025);
    }

    private static void genericClass() {
        ClassFileReader x = soundReader(HELD);
        dueNumbers(x, 61, 0x420, 14, 1, 0, 1, 0, 0, 0, 0, 0, 0);
        check.dueText(x, 2, 0, "java/util/List");
        check.dueText(x, 5, 0, "<init>");
        check.dueText(x, 9, 0, "<T::Ljava/lang/Comparable<TT;>;>Ljava/lang/Object;Ljava/util/List<TT;>;");
        check.due("no exceptions", x.exceptions(0), 0);
    }

    private static void constants() {
        ClassFileReader x = soundReader(CONSTS);
        dueNumbers(x, 61, 0x20, 31, 0, 6, 1, 0, 0, 0, 0, 0, 0);
        check.due("L", x.constant(0), 4294967298L);
        check.due("S", x.constant(1), 3);
        check.due("F", x.constant(2), Float.floatToIntBits(1.5f));
        check.due("z", x.constant(3), 1);
        check.due("D", x.constant(4), ClassFileReader.NONE);
        check.due("B", x.constant(5), -3);
        check.due("no such field", x.constant(6), ClassFileReader.NONE);
        check.due("flags of B", x.flags(0, 5), 24);
        check.dueText(x, 3, 3, "z");
        check.dueText(x, 4, 3, "Z");
        check.dueText(x, 4, 1, "Ljava/lang/String;");
    }

    private static void thrower() {
        ClassFileReader x = soundReader(THROWER);
        dueNumbers(x, 61, 0x20, 21, 0, 0, 3, 0, 0, 0, 0, 0, 0);
        check.due("exceptions of <init>", x.exceptions(0), 0);
        check.due("exceptions of m", x.exceptions(1), 2);
        check.due("no such method", x.exceptions(3), ClassFileReader.REFUSED);
        dueException(x, 1, 0, "java/io/IOException");
        dueException(x, 1, 1, "java/lang/InterruptedException");
        dueException(x, 1, 2, "");
        check.due("m is deprecated", x.deprecated(1, 1), 1);
        check.due("n is not", x.deprecated(1, 2), 0);
        check.due("flags of n", x.flags(1, 2), 256);
        check.dueText(x, 6, 2, "(Ljava/lang/String;[[J)[I");
    }

    private static void outerClass() {
        ClassFileReader x = soundReader(OUTER);
        dueNumbers(x, 61, 0x20, 21, 0, 0, 1, 3, 3, 0, 0, 0, 0);
        String[] simple = {"If", "St", "In"};
        int[] flags = {0x608, 8, 0};
        for (int k = 0; k < simple.length; k++) {
            check.dueText(x, 13, k, "Outer$" + simple[k]);
            check.dueText(x, 14, k, "Outer");
            check.dueText(x, 15, k, simple[k]);
            check.dueText(x, 17, k, "Outer$" + simple[k]);
            check.due("flags of an inner class", x.flags(2, k), flags[k]);
        }
        check.dueText(x, 16, 0, null);
        check.due("no such inner class", x.flags(2, 3), ClassFileReader.REFUSED);
    }

    private static void innerInterface() {
        ClassFileReader x = soundReader(OUTER_IF);
        dueNumbers(x, 61, 0x600, 17, 0, 1, 1, 1, 0, 0, 0, 0, 0);
        check.dueText(x, 16, 0, "Outer");
        check.due("X", x.constant(0), 7);
        check.due("flags of X", x.flags(0, 0), 25);
        check.due("flags of d", x.flags(1, 0), 1);
    }

    private static void signatures() {
        ClassFileReader x = soundReader(GEN);
        dueNumbers(x, 61, 0x20, 21, 0, 2, 2, 0, 0, 0, 0, 0, 0);
        check.dueText(x, 7, 0, "TT;");
        check.dueText(x, 7, 1, "Ljava/util/List<-TT;>;");
        check.dueText(x, 8, 0, null);
        check.dueText(x, 8, 1, "<U:Ljava/lang/Object;>(TU;)TU;");
        check.dueText(x, 9, 0, "<T:Ljava/lang/Object;>Ljava/lang/Object;");
    }

    private static void record() {
        ClassFileReader x = soundReader(P);
        dueNumbers(x, 61, 0x30, 23, 0, 1, 5, 0, 0, 0, 1, 0, 1);
        check.dueText(x, 1, 0, "java/lang/Record");
        check.dueText(x, 10, 0, "x");
        check.dueText(x, 11, 0, "I");
        check.dueText(x, 12, 0, null);
        check.due("x is not deprecated", x.deprecated(2, 0), 0);
        check.due("no such component", x.deprecated(2, 1), ClassFileReader.REFUSED);
    }

    /** The entries of a module have tags that the document does not name. */
    private static void module() {
        byte[] file = HexFormat.of().parseHex(MODULE);
        int tagPlace = MODULE.indexOf("130005") / 2;
        check.dueRead("a module", readerOf(file), ClassFileReader.POOL, tagPlace);
    }

    private static void everyPrefixIsShort() {
        for (String hex : new String[] {SHAPE, HELD, CONSTS, OUTER, OUTER_IF, P}) {
            byte[] file = HexFormat.of().parseHex(hex);
            for (int size = 0; size < file.length; size++) {
                byte[] prefix = Arrays.copyOf(file, size);
                check.dueRead("a prefix of " + size, readerOf(prefix), ClassFileReader.SHORT, size);
            }
        }
    }

    private static void everyByteMoreIsRest() {
        for (String hex : new String[] {SHAPE, HELD, CONSTS, OUTER, OUTER_IF, P}) {
            ClassFileReader x = soundReader(hex);
            int size = hex.length() / 2;
            x.put(0, 1);
            check.dueRead("a byte more", x, ClassFileReader.REST, size);
            x.put(-1, 8);
            check.dueRead("nine bytes more", x, ClassFileReader.REST, size);
        }
    }
}
