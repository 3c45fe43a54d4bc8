import java.nio.charset.StandardCharsets;

/** What the tests share: sending texts to a cutter, and counting wrong answers. */
final class Bench {
    private int wrong = 0;
    private int asked = 0;

    void due(String call, long got, long want) {
        asked++;
        if (got != want) {
            wrong++;
            System.out.println(call + " answered " + got + ", due is " + want);
        }
    }

    void due(String call, boolean got, boolean want) {
        due(call, got ? 1 : 0, want ? 1 : 0);
    }

    void close() {
        System.out.println(asked + " answers looked at, " + wrong + " of them wrong");
        if (wrong != 0 || asked == 0) {
            System.exit(1);
        }
    }

    /** A cutter whose input is the text, one char a byte. */
    static RequestCutter holding(String text) {
        RequestCutter cutter = new RequestCutter();
        send(cutter, text);
        return cutter;
    }

    /** Lays the text on the cutter's tape, which must be empty, and lets it arrive. */
    static int send(RequestCutter cutter, String text) {
        lay(cutter, text);
        return cutter.arrive();
    }

    /** Lays the text on the cutter's tape, which must be empty. */
    static void lay(RequestCutter cutter, String text) {
        byte[] bytes = text.getBytes(StandardCharsets.ISO_8859_1);
        for (int i = 0; i < bytes.length; i += 20) {
            cutter.feed(four(bytes, i), four(bytes, i + 4), four(bytes, i + 8),
                    four(bytes, i + 12), four(bytes, i + 16));
        }
        cutter.end(bytes.length);
    }

    private static int four(byte[] bytes, int from) {
        int number = 0;
        for (int i = from; i < from + 4; i++) {
            number = number << 8 | (i < bytes.length ? bytes[i] & 255 : 0);
        }
        return number;
    }

    /** Word w as a text, read byte by byte; null when there is none. */
    static String word(RequestCutter cutter, int w) {
        int size = cutter.size(w);
        if (size == RequestCutter.NONE) {
            return null;
        }
        StringBuilder text = new StringBuilder();
        for (int i = 0; i < size; i++) {
            int b = cutter.byteOf(w, i);
            text.append(b < 0 || b > 255 ? "<" + b + ">" : String.valueOf((char) b));
        }
        return text.toString();
    }

    /** The text, readable in one line. */
    static String shown(String text) {
        StringBuilder out = new StringBuilder();
        for (int i = 0; i < text.length() && i < 80; i++) {
            char c = text.charAt(i);
            out.append(c > 32 && c < 127 ? String.valueOf(c) : "\\" + (int) c + ";");
        }
        return text.length() > 80 ? out + ".. (" + text.length() + " bytes)" : out.toString();
    }

    /** The text, arriving at once, is cut into exactly these words and leaves so many bytes. */
    void words(String text, int left, String... words) {
        cutsWords(holding(text), shown(text), left, words);
    }

    /** The text, arriving at once, is no whole request and no fault. */
    void waits(String text) {
        cutsNothing(holding(text), shown(text));
    }

    /** The text, arriving at once, is this fault. */
    void faulty(String text, int fault) {
        cutsFault(holding(text), shown(text), fault);
    }

    /** The text, arriving byte by byte, is this fault with its last byte and waits until then. */
    void faultyWithTheLast(String text, int fault) {
        RequestCutter cutter = new RequestCutter();
        for (int n = 1; n <= text.length(); n++) {
            boolean last = n == text.length();
            String what = n + " bytes, one by one, of " + shown(text);
            due(what + ": arrive()", send(cutter, text.substring(n - 1, n)), n);
            due(what + ": cut()", cutter.cut(), last ? -2 : RequestCutter.NONE);
            due(what + ": fault()", cutter.fault(), last ? fault : 0);
        }
    }

    /** A cut that gives exactly these words and leaves so many bytes. */
    void cutsWords(RequestCutter cutter, String what, int left, String... words) {
        due(what + ": cut()", cutter.cut(), words.length);
        due(what + ": fault()", cutter.fault(), 0);
        due(what + ": waiting()", cutter.waiting(), left);
        for (int w = 0; w < words.length; w++) {
            due(what + ": size(" + w + ")", cutter.size(w), words[w].length());
            due(what + ": word " + w + " has its bytes", words[w].equals(word(cutter, w)), true);
            due(what + ": byteOf behind word " + w,
                    cutter.byteOf(w, words[w].length()), RequestCutter.NONE);
        }
        hasNoWord(cutter, what, words.length);
    }

    /** A cut that waits for more bytes. */
    void cutsNothing(RequestCutter cutter, String what) {
        int before = cutter.waiting();
        due(what + ": cut()", cutter.cut(), RequestCutter.NONE);
        due(what + ": fault()", cutter.fault(), 0);
        due(what + ": waiting()", cutter.waiting(), before);
        hasNoWord(cutter, what, 0);
    }

    /** A cut that tells this fault, and tells it again when asked again. */
    void cutsFault(RequestCutter cutter, String what, int fault) {
        int before = cutter.waiting();
        for (int time = 0; time < 2; time++) {
            due(what + ": cut()", cutter.cut(), -2);
            due(what + ": fault()", cutter.fault(), fault);
            due(what + ": waiting()", cutter.waiting(), before);
            hasNoWord(cutter, what, 0);
        }
    }

    /** Neither the word w nor one at an impossible place is there. */
    void hasNoWord(RequestCutter cutter, String what, int w) {
        int[] places = {w, w + 1, -1, 1024, Integer.MAX_VALUE, Integer.MIN_VALUE};
        for (int place : places) {
            due(what + ": size(" + place + ")", cutter.size(place), RequestCutter.NONE);
            due(what + ": byteOf(" + place + ", 0)", cutter.byteOf(place, 0), RequestCutter.NONE);
        }
    }
}
