/** Counts the answers that are not the ones due, and tells each. */
final class Check {
    private int wrong = 0;
    private int asked = 0;

    void due(String call, long got, long want) {
        asked++;
        if (got != want) {
            wrong++;
            System.out.println(call + " answered " + got + ", due is " + want);
        }
    }

    /** Reads the bytes of the reader and looks at the code and the place. */
    void dueRead(String what, ClassFileReader reader, int code, int place) {
        due(what + ": read()", reader.read(), code);
        due(what + ": place()", reader.place(), place);
    }

    void dueRead(String what, FileBytes file, int code, int place) {
        dueRead(what, file.reader(), code, place);
    }

    void dueSound(String what, FileBytes file) {
        dueRead(what, file, 0, -1);
    }

    /** The text must be there with just these characters; null for one that is not there. */
    void dueText(ClassFileReader reader, int kind, int k, String want) {
        String call = "text(" + kind + ", " + k + ", ";
        int length = want == null ? 0 : want.length();
        for (int i = 0; i < length; i++) {
            due(call + i + ")", reader.text(kind, k, i), want.charAt(i));
        }
        due(call + length + ")", reader.text(kind, k, length), -1);
        due(call + "-1)", reader.text(kind, k, -1), -1);
    }

    void end() {
        System.out.println(asked + " answers, " + wrong + " of them wrong");
        if (wrong != 0 || asked == 0) {
            System.exit(1);
        }
    }
}
