/** All promises: runs of 512 calls on one object, with edges and wrong arguments, held against the ModelReader. */
public final class CallsTest {
    private static final Check check = new Check();
    private static final int RUNS = 4000;
    private static final int MOST_CALLS = 512;
    private static final int[] EDGES = {Integer.MIN_VALUE, -2, -1, 0, 1, 2, 15, 16, 17, 63, 64, 255, 256, 479, 480, 481,
        65535, 65536, 1 << 29, 1 << 30, Integer.MAX_VALUE};

    private final RandomFiles random;
    private final ClassFileReader x = new ClassFileReader();
    private final ModelReader model = new ModelReader();
    private final String run;
    private int calls = 0;

    private CallsTest(int seed) {
        random = new RandomFiles(seed);
        run = "run " + seed + ", call ";
    }

    public static void main(String[] args) {
        for (int seed = 0; seed < RUNS; seed++) {
            new CallsTest(1000000 + seed).go();
        }
        check.end();
    }

    private void go() {
        while (calls < MOST_CALLS) {
            int what = random.below(100);
            if (what < 4) {
                putFile(random.file());
            } else if (what < 10) {
                changeBytes();
            } else if (what < 24) {
                patchNear();
            } else if (what < 40) {
                read();
            } else {
                ask();
            }
        }
    }

    private void due(String call, long got, long want) {
        calls++;
        check.due(run + calls + ": " + call, got, want);
    }

    private boolean callsLeft(int number) {
        return calls + number <= MOST_CALLS;
    }

    /** All bytes are dropped, and the file is put in pieces of any size. */
    private void putFile(byte[] bytes) {
        if (!callsLeft(200) || bytes.length > 480) {
            read();
            return;
        }
        due("drop()", x.drop(), model.drop());
        int least = random.chance(70) ? 8 : 4;
        for (int from = 0; from < bytes.length; ) {
            int n = Math.min(bytes.length - from, least + random.below(9 - least));
            long value = random.chance(50) ? -1 : 0;
            for (int i = 0; i < n; i++) {
                value = value << 8 | bytes[from + i] & 255;
            }
            put(value, n);
            from += n;
        }
        read();
    }

    private void put(long value, int n) {
        due("put(" + value + ", " + n + ")", x.put(value, n), model.put(value, n));
    }

    private void read() {
        if (callsLeft(2)) {
            due("read()", x.read(), model.read());
        }
        due("place()", x.place(), model.place());
    }

    private int any() {
        return random.chance(70) ? random.below(4) : EDGES[random.below(EDGES.length)];
    }

    private void changeBytes() {
        int what = random.below(10);
        if (what == 0) {
            due("drop()", x.drop(), model.drop());
        } else if (what < 5) {
            put(random.below(1 << 30) * (random.chance(50) ? -1234567L : 7654321L), any());
        } else {
            patch(any(), any());
        }
    }

    private void patch(int place, int value) {
        due("patch(" + place + ", " + value + ")", x.patch(place, value), model.patch(place, value));
    }

    /** One byte changed, read, and most often changed back. */
    private void patchNear() {
        if (model.size() == 0 || !callsLeft(4)) {
            read();
            return;
        }
        int place = random.below(model.size());
        int value = random.chance(60) ? random.below(20) : random.below(256);
        int before = model.patch(place, value);
        due("patch(" + place + ", " + value + ")", x.patch(place, value), before);
        read();
        if (random.chance(80)) {
            patch(place, before);
        }
    }

    private void ask() {
        int kind = random.chance(90) ? random.below(20) : EDGES[random.below(EDGES.length)];
        int k = any();
        int index = any();
        switch (random.below(8)) {
            case 0:
                due("number(" + kind + ")", x.number(kind), model.number(kind));
                break;
            case 1:
                due("flags(" + kind % 4 + ", " + k + ")", x.flags(kind % 4, k), model.flags(kind % 4, k));
                break;
            case 2:
                due("exceptions(" + k + ")", x.exceptions(k), model.exceptions(k));
                break;
            case 3:
                int e = any();
                due("exception(" + k + ", " + e + ", " + index + ")", x.exception(k, e, index),
                    model.exception(k, e, index));
                break;
            case 4:
                due("constant(" + k + ")", x.constant(k), model.constant(k));
                break;
            case 5:
                due("deprecated(" + kind % 4 + ", " + k + ")", x.deprecated(kind % 4, k),
                    model.deprecated(kind % 4, k));
                break;
            default:
                due("text(" + kind + ", " + k + ", " + index + ")", x.text(kind, k, index),
                    model.text(kind, k, index));
        }
    }
}
