import java.util.Random;

/**
 * Runs of up to 512 calls with bytes in pieces of any length, against a slow second reading of the
 * document that works on texts and patterns. The seeds are fixed, so that every run is the same.
 */
public final class PiecesTest {
    private static final Bench BENCH = new Bench();
    private static final int RUNS = 4000;
    private static final int CALLS = 512;
    private static final int MOST_CALLS_A_ROUND = 48;
    /** Whether any run met a request (0), each fault (1 to 5), or nothing whole (6). */
    private static final boolean[] MET = new boolean[7];

    private final Random random;
    private final RequestCutter cutter = new RequestCutter();
    private final Reading reading = new Reading();
    private final String name;
    private String coming = "";
    private int calls = 0;

    private PiecesTest(int seed) {
        random = new Random(seed);
        name = "run " + seed;
    }

    public static void main(String[] args) {
        for (int seed = 1; seed <= RUNS; seed++) {
            new PiecesTest(seed).run();
        }
        for (int kind = 0; kind < MET.length; kind++) {
            BENCH.due("a run that met kind " + kind + " of answer", MET[kind], true);
        }
        BENCH.close();
    }

    private void run() {
        boolean calm = random.nextInt(3) == 0;
        int longest = random.nextInt(4) == 0 ? 300 : 30;
        while (calls < CALLS - MOST_CALLS_A_ROUND) {
            if (coming.isEmpty()) {
                coming = calm ? request() : spoiled(request());
            }
            int length = Math.min(coming.length(), 1 + random.nextInt(longest));
            send(coming.substring(0, length));
            coming = coming.substring(length);
            cutAndAsk();
            if (random.nextInt(12) == 0) {
                drop(random.nextInt(reading.input.length() + 3) - 1);
            }
        }
    }

    private void send(String piece) {
        Bench.lay(cutter, piece);
        reading.tape = piece;
        if (random.nextInt(10) == 0) {
            int n = random.nextInt(piece.length() + 4) - 2;
            boolean right = n >= 0 && n <= piece.length();
            BENCH.due(name + ": end(" + n + ")", cutter.end(n), right);
            reading.tape = right ? piece.substring(0, n) : piece;
            calls++;
        }
        calls += 2 + (piece.length() + 19) / 20;
        BENCH.due(name + ": arrive()", cutter.arrive(), reading.arrive());
    }

    private void cutAndAsk() {
        for (int again = 0; again < 3; again++) {
            String before = Bench.shown(reading.input);
            int answer = reading.cut();
            BENCH.due(name + ": cut() of " + before, cutter.cut(), answer);
            BENCH.due(name + ": fault() of " + before, cutter.fault(), reading.fault);
            BENCH.due(name + ": waiting()", cutter.waiting(), reading.input.length());
            MET[answer == -1 ? 6 : reading.fault] = true;
            int w = random.nextInt(Math.max(1, answer) + 2) - 1;
            int i = random.nextInt(Math.max(1, reading.size(w)) + 2) - 1;
            BENCH.due(name + ": size(" + w + ")", cutter.size(w), reading.size(w));
            BENCH.due(name + ": byteOf(" + w + ", " + i + ")", cutter.byteOf(w, i), reading.byteOf(w, i));
            calls += 5;
            if (answer == -2) {
                drop(random.nextBoolean() ? reading.input.length() : random.nextInt(reading.input.length() + 1));
            }
            if (answer == -1) {
                return;
            }
        }
    }

    private void drop(int n) {
        BENCH.due(name + ": drop(" + n + ")", cutter.drop(n), reading.drop(n));
        BENCH.due(name + ": waiting() after drop", cutter.waiting(), reading.input.length());
        calls += 2;
    }

    private String request() {
        int kind = random.nextInt(20);
        if (kind == 0) {
            return "x".repeat(2040 + random.nextInt(16)) + "\n";
        }
        if (kind < 6) {
            return text(random.nextInt(40), "ab  \r\t\u00ff*$") + (random.nextBoolean() ? "\r\n" : "\n");
        }
        int count = random.nextInt(6) - 1;
        StringBuilder all = new StringBuilder("*" + count + "\r\n");
        for (int w = 0; w < count; w++) {
            String word = text(random.nextInt(random.nextInt(8) == 0 ? 400 : 12), "abc\r\n$*\0\u0080 1");
            all.append("$").append(word.length()).append("\r\n").append(word).append("\r\n");
        }
        return all.toString();
    }

    private String text(int length, String of) {
        StringBuilder out = new StringBuilder();
        for (int i = 0; i < length; i++) {
            out.append(of.charAt(random.nextInt(of.length())));
        }
        return out.toString();
    }

    private String spoiled(String whole) {
        if (random.nextInt(2) == 0) {
            return whole;
        }
        int place = random.nextInt(Math.min(whole.length(), 24));
        int gone = random.nextInt(3);
        String in = text(random.nextInt(4), "0123456789-*$\r\n x");
        return whole.substring(0, place) + in + whole.substring(Math.min(whole.length(), place + gone));
    }
}
