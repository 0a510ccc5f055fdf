/** Counts the answers that are not the ones due, and tells each. */
final class Check {
    private int wrong = 0;
    private int asked = 0;
    private String sentence = "";
    private int askedBefore = 0;

    /** What follows tests this sentence of the document; a sentence without an answer asked for is a fault. */
    void sentence(String words) {
        endSentence();
        sentence = words;
        askedBefore = asked;
    }

    private void endSentence() {
        if (!sentence.isEmpty() && asked == askedBefore) {
            tell("nothing was asked");
        }
        sentence = "";
    }

    private void tell(String fault) {
        wrong++;
        System.out.println(sentence.isEmpty() ? fault : "\"" + sentence + "\": " + fault);
    }

    void due(String call, long got, long want) {
        asked++;
        if (got != want) {
            tell(call + " answered " + got + ", due is " + want);
        }
    }

    /** Reads the bytes of the reader and looks at the code and the place. */
    void dueRead(String what, ClassFileReader reader, int code, int place) {
        due(what + ": read()", reader.read(), code);
        due(what + ": place()", reader.place(), place);
    }

    void dueRead(String what, FileBytes file, int code, int place) {
        dueRead(what, file.reader(), code, place);
    }

    void dueSound(String what, FileBytes file) {
        dueRead(what, file, 0, -1);
    }

    /** The text must be there with just these characters; null for one that is not there. */
    void dueText(ClassFileReader reader, int kind, int k, String want) {
        String call = "text(" + kind + ", " + k + ", ";
        int length = want == null ? 0 : want.length();
        for (int i = 0; i < length; i++) {
            due(call + i + ")", reader.text(kind, k, i), want.charAt(i));
        }
        due(call + length + ")", reader.text(kind, k, length), -1);
        due(call + "-1)", reader.text(kind, k, -1), -1);
    }

    void end() {
        endSentence();
        System.out.println(asked + " answers, " + wrong + " of them wrong");
        if (wrong != 0 || asked == 0) {
            System.exit(1);
        }
    }
}
