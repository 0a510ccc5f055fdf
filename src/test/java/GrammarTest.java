/** Promise 5: which texts are names and types, as fields and methods bear them. */
public final class GrammarTest {
    private static final Check check = new Check();

    public static void main(String[] args) {
        fieldTypes();
        methodTypes();
        dimensions();
        memberNames();
        lastText();
        check.end();
    }

    private static void fieldTypes() {
        String[] right = {"B", "C", "D", "F", "I", "J", "S", "Z", "[B", "[[[Z", "La;", "La/b/C;", "[La/b;",
            "L<>;", "L();", "LL;", "LI;", "L:;"};
        for (String type : right) {
            dueField("f", type, 0);
        }
        String[] wrong = {"", "V", "[V", "[", "[[", "II", "I[", "A", "L", "L;", "La", "La;b", "La;;", "L/;", "L/a;",
            "La/;", "La//b;", "La.b;", "L[a;", "L[I;", "a", "()I", "i", ";", "I;", " I", "[LI", "(", ")"};
        for (String type : wrong) {
            dueField("f", type, ClassFileReader.TYPE);
        }
        for (int c = 1; c <= 127; c++) {
            boolean primitive = "BCDFIJSZ".indexOf(c) >= 0;
            dueField("f", "" + (char) c, primitive ? 0 : ClassFileReader.TYPE);
            boolean inName = ".;[/".indexOf(c) < 0;
            dueField("f", "L" + (char) c + ";", inName ? 0 : ClassFileReader.TYPE);
        }
    }

    private static void methodTypes() {
        String[] right = {"()V", "()I", "(I)V", "(IJ)J", "([I[[La/b;Z)[La;", "(La;Lb;)V", "(La)V;)V", "(L);)V",
            "()L);", "(IIIIIIIIIIIIIIIIIIIIIIIIIIIIIIIIIIIIII)D"};
        for (String type : right) {
            dueMethod("f", type, 0);
        }
        String[] wrong = {"", "(", ")", "()", "(I", "(I)", "I", "V", "()VV", "()IV", "()V)", "(V)V", "([V)V", "([)V",
            "()[V", "()[", "(La)V", "(L;)V", "()L;", "()La", ")(V", "((I)V)V", "(I)(V", "(I,J)V", "()V;", "(I)VI",
            "(I)v", " ()V", "[()V", "(I[)V"};
        for (String type : wrong) {
            dueMethod("f", type, ClassFileReader.TYPE);
        }
    }

    private static void dimensions() {
        String most = "[".repeat(255);
        dueField("f", most + "I", 0);
        dueField("f", most + "La;", 0);
        dueField("f", most + "[I", ClassFileReader.TYPE);
        dueField("f", most + "[La;", ClassFileReader.TYPE);
        dueMethod("f", "(" + most + "I[I)V", 0);
        dueMethod("f", "(" + most + "[I)V", ClassFileReader.TYPE);
        dueMethod("f", "()" + most + "J", 0);
        dueMethod("f", "()" + most + "[J", ClassFileReader.TYPE);
        FileBytes file = FileBytes.start();
        int self = file.classOf("A");
        int array = file.classOf(most + "[I");
        file.endPool().header(33, self, 0);
        check.dueRead("a class of 256 dimensions", file.endEmpty(), ClassFileReader.NAME, file.placeOf(array));
    }

    private static void memberNames() {
        for (int c = 1; c <= 127; c++) {
            boolean fits = ".;[/<>".indexOf(c) < 0;
            dueField("" + (char) c, "I", fits ? 0 : ClassFileReader.NAME);
            dueMethod("a" + (char) c, "()V", fits ? 0 : ClassFileReader.NAME);
            dueMethod((char) c + "a", "()V", fits ? 0 : ClassFileReader.NAME);
        }
        dueField("", "I", ClassFileReader.NAME);
        dueMethod("", "()V", ClassFileReader.NAME);
        dueField("<init>", "I", ClassFileReader.NAME);
        dueField("<clinit>", "I", ClassFileReader.NAME);
        dueMethod("<init>", "()V", 0);
        dueMethod("<init>", "(I)I", 0);
        dueMethod("<clinit>", "()V", 0);
        dueMethod("<clinit>", "(I)I", 0);
        String[] wrong = {"<init", "init>", "<init>>", "<Init>", "<inits>", "<clinit", "<clinit> ", "<>", "<a>"};
        for (String name : wrong) {
            dueMethod(name, "()V", ClassFileReader.NAME);
        }
    }

    /** A text ends where its length says, whatever byte is next. */
    private static void lastText() {
        FileBytes dot = FileBytes.start();
        int self = dot.classOf("A");
        int type = dot.text("I");
        int name = dot.text("f");
        dot.endPool().header('.' << 8, self, 0);
        dot.u2(1);
        dot.member(25, name, type, 0);
        dot.u2(0);
        dot.u2(0);
        check.dueSound("a name before a dot", dot);
        FileBytes semicolon = FileBytes.start();
        int array = semicolon.one(FileBytes.CLASS, 2);
        semicolon.text("[La");
        semicolon.endPool().header(';' << 8, array, 0);
        check.dueRead("a type before a semicolon", semicolon, ClassFileReader.NAME, semicolon.placeOf(array));
    }

    private static void dueField(String name, String type, int code) {
        due(name, type, code, 1, 0);
    }

    private static void dueMethod(String name, String type, int code) {
        due(name, type, code, 0, 1);
    }

    private static void due(String name, String type, int code, int fields, int methods) {
        FileBytes file = FileBytes.start();
        int self = file.classOf("A");
        int nameText = file.text(name);
        int typeText = file.text(type);
        file.endPool().header(33, self, 0);
        file.u2(fields);
        if (fields == 0) {
            file.u2(methods);
        }
        int place = file.member(0, nameText, typeText, 0);
        if (methods == 0) {
            file.u2(methods);
        }
        file.u2(0);
        int wrongPlace = code == 0 ? -1 : code == ClassFileReader.NAME ? place + 2 : place + 4;
        check.dueRead((fields == 1 ? "field " : "method ") + name + " " + type, file, code, wrongPlace);
    }
}
