/** The example of README.md, with what it says there about each answer. */
public final class ExampleTest {
    private static final Check check = new Check();

    public static void main(String[] args) {
        ClassFileReader reader = new ClassFileReader();
        reader.put(0xCAFEBABEL, 4);
        reader.put(0, 2);
        reader.put(61, 2);
        reader.put(3, 2);
        reader.put(7, 1);
        reader.put(2, 2);
        reader.put(1, 1);
        reader.put(1, 2);
        reader.put('A', 1);
        reader.put(33, 2);
        reader.put(1, 2);
        reader.put(0, 2);
        check.due("put(0, 8)", reader.put(0, 8), 31);

        check.due("read()", reader.read(), 0);
        check.due("place()", reader.place(), -1);
        check.due("number(0)", reader.number(0), 61);
        check.due("text(0, 0, 0)", reader.text(0, 0, 0), 'A');
        check.due("text(0, 0, 1)", reader.text(0, 0, 1), -1);

        check.due("patch(7, 44)", reader.patch(7, 44), 61);
        check.due("read()", reader.read(), ClassFileReader.VERSION);
        check.due("place()", reader.place(), 6);
        check.due("number(0)", reader.number(0), 61);

        check.due("drop()", reader.drop(), 31);
        check.end();
    }
}
