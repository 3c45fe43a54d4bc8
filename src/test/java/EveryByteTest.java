/**
 * Every byte in every place of a request, and every short LINE of the bytes that matter there, held
 * against the second reading of the document.
 */
public final class EveryByteTest {
    private static final Bench BENCH = new Bench();
    private static final String[] WHOLES = {
        "*2\r\n$1\r\na\r\n$0\r\n\r\n", "*1\r\n$10\r\n0123456789\r\n", "*-12\r\n", " a b\r\n"};
    private static final String LINE_BYTES = "019-\r\n x";

    public static void main(String[] args) {
        for (String whole : WHOLES) {
            everyByteIn(whole);
        }
        everyShortLine("*", "", 5);
        everyShortLine("*1\r\n$", "", 4);
        everyShortLine("*1\r\n$1\r\n", "", 4);
        BENCH.close();
    }

    private static void everyByteIn(String whole) {
        for (int place = 0; place <= whole.length(); place++) {
            for (int b = 0; b < 256; b++) {
                String head = whole.substring(0, place) + (char) b;
                String instead = place < whole.length() ? whole.substring(place + 1) : "";
                sameAsReading(head);
                sameAsReading(head + instead);
                sameAsReading(head + whole.substring(place));
            }
        }
    }

    private static void everyShortLine(String head, String line, int left) {
        sameAsReading(head + line);
        sameAsReading(head + line + "\r\n");
        for (int i = 0; i < LINE_BYTES.length() && left > 0; i++) {
            everyShortLine(head, line + LINE_BYTES.charAt(i), left - 1);
        }
    }

    private static void sameAsReading(String text) {
        RequestCutter cutter = Bench.holding(text);
        Reading reading = new Reading();
        reading.tape = text;
        reading.arrive();
        int answer;
        do {
            answer = reading.cut();
            String what = Bench.shown(text);
            BENCH.due(what + ": cut()", cutter.cut(), answer);
            BENCH.due(what + ": fault()", cutter.fault(), reading.fault);
            BENCH.due(what + ": waiting()", cutter.waiting(), reading.input.length());
            for (int w = 0; w < answer; w++) {
                BENCH.due(what + ": word " + w, reading.words.get(w).equals(Bench.word(cutter, w)), true);
            }
            BENCH.due(what + ": size behind the last", cutter.size(Math.max(0, answer)), RequestCutter.NONE);
        } while (answer >= 0);
    }
}
