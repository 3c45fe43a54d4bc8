import java.util.Arrays;

/** Cuts requests out of bytes that come in any pieces. */
public final class RequestCutter {
    public static final int NONE = -1;

    private static final int FAULTY = -2;

    private static final int MOST_TAPE_BYTES = 10240;
    private static final int MOST_INPUT_BYTES = 65536;
    private static final int FED_BYTES = 20;

    private static final int LINE_FEED = 10;
    private static final int CARRIAGE_RETURN = 13;
    private static final int BLANK = 32;
    private static final int DOLLAR = 36;
    private static final int STAR = 42;
    private static final int MINUS = 45;
    private static final int DIGIT_ZERO = 48;
    private static final int DIGIT_NINE = 57;

    private static final int LINE_REACH = 16;
    private static final int PLAIN_REACH = 2048;
    private static final int MOST_DIGITS = 6;
    private static final int LEAST_NUMBER = -999999;
    private static final int MOST_WORDS = 1024;
    private static final int MOST_WORD_BYTES = 16384;

    private static final int NO_FAULT = 0;
    private static final int STAR_LINE_FAULT = 1;
    private static final int DOLLAR_FAULT = 2;
    private static final int DOLLAR_LINE_FAULT = 3;
    private static final int WORD_END_FAULT = 4;
    private static final int PLAIN_FAULT = 5;

    private final ByteRow tape;
    private final ByteRow input;
    private final WordRow words;
    private int latestFault;
    private int lineNumber;

    public RequestCutter() {
        tape = new ByteRow(MOST_TAPE_BYTES);
        input = new ByteRow(MOST_INPUT_BYTES);
        words = new WordRow();
        latestFault = NO_FAULT;
        lineNumber = 0;
    }

    public boolean feed(int a, int b, int c, int d, int e) {
        if (!tape.makeRoom(FED_BYTES)) {
            return false;
        }
        tape.addNumber(a);
        tape.addNumber(b);
        tape.addNumber(c);
        tape.addNumber(d);
        tape.addNumber(e);
        return true;
    }

    public boolean end(int n) {
        return tape.keepFirst(n);
    }

    public int arrive() {
        boolean taken = input.addFirstOf(tape, tape.count());
        tape.clear();
        return taken ? input.count() : NONE;
    }

    public int cut() {
        latestFault = NO_FAULT;
        words.clear();
        int used = input.at(0) == STAR ? scanCounted() : scanPlain();
        if (used < 0) {
            words.clear();
            return used;
        }
        words.keepBytes(input, used);
        input.removeFirst(used);
        return words.count();
    }

    public int fault() {
        return latestFault;
    }

    public int size(int w) {
        return words.sizeOf(w);
    }

    public int byteOf(int w, int i) {
        return words.byteAt(w, i);
    }

    public boolean drop(int n) {
        return input.removeFirst(n);
    }

    public int waiting() {
        return input.count();
    }

    // Every scan answers the place behind what it has read, NONE when bytes
    // are missing, or FAULTY. It begins anew with each cut, so that a drop
    // between two cuts needs no care.

    private int scanCounted() {
        int place = scanLine(0, LEAST_NUMBER, MOST_WORDS, STAR_LINE_FAULT);
        int due = lineNumber;
        for (int w = 0; w < due && place >= 0; w++) {
            place = scanWord(place);
        }
        return place;
    }

    private int scanWord(int from) {
        int mark = input.at(from);
        if (mark == NONE) {
            return NONE;
        }
        if (mark != DOLLAR) {
            return tell(DOLLAR_FAULT);
        }
        int start = scanLine(from, 0, MOST_WORD_BYTES, DOLLAR_LINE_FAULT);
        if (start < 0) {
            return start;
        }
        words.add(start, lineNumber);
        return scanWordEnd(start + lineNumber);
    }

    private int scanWordEnd(int from) {
        int first = input.at(from);
        int second = input.at(from + 1);
        if (first == NONE) {
            return NONE;
        }
        if (first != CARRIAGE_RETURN) {
            return tell(WORD_END_FAULT);
        }
        if (second == NONE) {
            return NONE;
        }
        return second == LINE_FEED ? from + 2 : tell(WORD_END_FAULT);
    }

    private int scanLine(int from, int least, int most, int faultOfLine) {
        int stop = findLineStop(from);
        if (stop == NONE) {
            return input.count() - from >= LINE_REACH ? tell(faultOfLine) : NONE;
        }
        if (!readNumber(from + 1, stop) || lineNumber < least || lineNumber > most) {
            return tell(faultOfLine);
        }
        return stop + 2;
    }

    private int findLineStop(int from) {
        for (int i = from + 1; i < from + LINE_REACH - 1; i++) {
            if (input.at(i) == CARRIAGE_RETURN && input.at(i + 1) == LINE_FEED) {
                return i;
            }
        }
        return NONE;
    }

    private boolean readNumber(int from, int stop) {
        boolean below = input.at(from) == MINUS;
        int first = below ? from + 1 : from;
        if (stop <= first || stop - first > MOST_DIGITS) {
            return false;
        }
        int number = 0;
        for (int i = first; i < stop; i++) {
            int digit = input.at(i);
            if (digit < DIGIT_ZERO || digit > DIGIT_NINE) {
                return false;
            }
            number = number * 10 + (digit - DIGIT_ZERO);
        }
        lineNumber = below ? -number : number;
        return true;
    }

    private int scanPlain() {
        int lineFeed = findLineFeed();
        if (lineFeed == NONE) {
            return input.count() >= PLAIN_REACH ? tell(PLAIN_FAULT) : NONE;
        }
        boolean returned = input.at(lineFeed - 1) == CARRIAGE_RETURN;
        addPlainWords(returned ? lineFeed - 1 : lineFeed);
        return lineFeed + 1;
    }

    private int findLineFeed() {
        // An LF further on does not count: in other pieces, the bytes ahead
        // of it would have shown the fault before it came.
        int reach = Math.min(input.count(), PLAIN_REACH);
        for (int i = 0; i < reach; i++) {
            if (input.at(i) == LINE_FEED) {
                return i;
            }
        }
        return NONE;
    }

    private void addPlainWords(int stop) {
        int start = 0;
        for (int i = 0; i <= stop; i++) {
            if (i == stop || input.at(i) == BLANK) {
                if (i > start) {
                    words.add(start, i - start);
                }
                start = i + 1;
            }
        }
    }

    private int tell(int fault) {
        latestFault = fault;
        return FAULTY;
    }

    /** Bytes up to a limit; it grows, because few objects ever come near their limit. */
    private static final class ByteRow {
        private static final int FIRST_ROOM = 64;

        private final int limit;
        private byte[] bytes;
        private int count;

        ByteRow(int limit) {
            this.limit = limit;
            bytes = new byte[FIRST_ROOM];
            count = 0;
        }

        int count() {
            return count;
        }

        int at(int i) {
            return i >= 0 && i < count ? bytes[i] & 255 : NONE;
        }

        void clear() {
            count = 0;
        }

        boolean makeRoom(int more) {
            if (more < 0 || more > limit - count) {
                return false;
            }
            int need = count + more;
            if (need > bytes.length) {
                // At least doubled, so that all the rows ever made stay
                // below twice the last one.
                int doubled = Math.max(need, 2 * bytes.length);
                bytes = Arrays.copyOf(bytes, Math.min(limit, doubled));
            }
            return true;
        }

        void addNumber(int number) {
            for (int shift = 24; shift >= 0; shift -= 8) {
                if (count < bytes.length) {
                    bytes[count] = (byte) (number >>> shift);
                    count++;
                }
            }
        }

        boolean addFirstOf(ByteRow other, int n) {
            if (n < 0 || n > other.count || !makeRoom(n)) {
                return false;
            }
            System.arraycopy(other.bytes, 0, bytes, count, n);
            count += n;
            return true;
        }

        boolean keepFirst(int n) {
            if (n < 0 || n > count) {
                return false;
            }
            count = n;
            return true;
        }

        boolean removeFirst(int n) {
            if (n < 0 || n > count) {
                return false;
            }
            System.arraycopy(bytes, n, bytes, 0, count - n);
            count -= n;
            return true;
        }
    }

    /** The words of one request, with its bytes, which the input no longer has. */
    private static final class WordRow {
        private static final int FIRST_ROOM = 8;

        private final ByteRow bytes;
        private int[] starts;
        private int[] sizes;
        private int count;

        WordRow() {
            bytes = new ByteRow(MOST_INPUT_BYTES);
            starts = new int[FIRST_ROOM];
            sizes = new int[FIRST_ROOM];
            count = 0;
        }

        int count() {
            return count;
        }

        void clear() {
            count = 0;
            bytes.clear();
        }

        void add(int start, int size) {
            if (count >= MOST_WORDS) {
                return;
            }
            if (count >= starts.length || count >= sizes.length) {
                int room = Math.min(MOST_WORDS, 2 * count);
                starts = Arrays.copyOf(starts, room);
                sizes = Arrays.copyOf(sizes, room);
            }
            starts[count] = start;
            sizes[count] = size;
            count++;
        }

        void keepBytes(ByteRow input, int used) {
            bytes.addFirstOf(input, used);
        }

        int sizeOf(int w) {
            return w >= 0 && w < count ? sizes[w] : NONE;
        }

        int byteAt(int w, int i) {
            if (w < 0 || w >= count || i < 0 || i >= sizes[w]) {
                return NONE;
            }
            return bytes.at(starts[w] + i);
        }
    }
}
