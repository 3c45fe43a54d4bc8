/**
 * The edges in the document's section 'Terms': a method for each number or byte that stands there, with
 * what is just below and just above it. But for longestWord, every run keeps to 512 calls.
 */
public final class TermsEdgeTest {
    private static final Bench BENCH = new Bench();
    private static final String ONE = "*1\r\n";
    private static final String TWO = "*2\r\n$2\r\nab\r\n";

    public static void main(String[] args) {
        firstByteIsStar();
        byteForDollarIsDollar();
        lineEndsWithCr();
        lineEndsWithLf();
        numberIsDigits();
        numberMayHaveMinusAhead();
        numberHasOneToSixDigits();
        starNumberZeroOrBelow();
        starNumberUpTo1024();
        mostWords();
        dollarNumberFromZero();
        dollarNumberUpTo16384();
        longestWord();
        wordHasAsManyBytes();
        wordEndsWithCr();
        wordEndsWithLf();
        lineWithin16Bytes();
        plainEndsWithLf();
        plainLosesOneCr();
        plainPartedByBlanks();
        plainWithin2048Bytes();
        faultsAreToldAtOnce();
        requestIsCutFromTheBeginning();
        BENCH.close();
    }

    private static String of(int b) {
        return String.valueOf((char) b);
    }

    /** "If the first byte is *" (42). */
    private static void firstByteIsStar() {
        BENCH.words(of(41) + "1\r\n", 0, ")1");
        BENCH.waits(of(42) + "1\r\n");
        BENCH.words(of(43) + "1\r\n", 0, "+1");
        BENCH.words(of(42 + 128) + "1\r\n", 0, of(42 + 128) + "1");
        BENCH.words("a" + ONE, 0, "a*1");
        BENCH.words("$1\r\n", 0, "$1");
    }

    /** "another byte where $ must be (2)" (36). */
    private static void byteForDollarIsDollar() {
        for (String head : new String[] {ONE, TWO, "*1024\r\n"}) {
            BENCH.waits(head);
            BENCH.faulty(head + of(35), 2);
            BENCH.waits(head + of(36));
            BENCH.faulty(head + of(37), 2);
            BENCH.faulty(head + of(36 + 128), 2);
            BENCH.faulty(head + "*", 2);
            BENCH.faulty(head + "\r\n", 2);
        }
    }

    /** "CR LF (13, 10)" of a LINE: the CR. */
    private static void lineEndsWithCr() {
        BENCH.waits("*0" + of(12) + "\n");
        BENCH.words("*0" + of(13) + "\n", 0);
        BENCH.waits("*0" + of(14) + "\n");
        BENCH.waits("*0" + of(13 + 128) + "\n");
        BENCH.waits(ONE + "$0" + of(12) + "\n");
        BENCH.words(ONE + "$0" + of(13) + "\n\r\n", 0, "");
        BENCH.waits(ONE + "$0" + of(14) + "\n");
        BENCH.faulty("*0" + of(12) + "\n\r\n", 1);
        BENCH.faulty("*0" + of(14) + "\n\r\n", 1);
        BENCH.faulty(ONE + "$0" + of(12) + "\n\r\n", 3);
        BENCH.faulty(ONE + "$0" + of(14) + "\n\r\n", 3);
    }

    /** "CR LF (13, 10)" of a LINE: the LF. */
    private static void lineEndsWithLf() {
        BENCH.waits("*0\r" + of(9));
        BENCH.words("*0\r" + of(10), 0);
        BENCH.waits("*0\r" + of(11));
        BENCH.waits("*0\r" + of(10 + 128));
        BENCH.waits(ONE + "$0\r" + of(9));
        BENCH.words(ONE + "$0\r" + of(10) + "\r\n", 0, "");
        BENCH.waits(ONE + "$0\r" + of(11));
        BENCH.faulty("*0\r" + of(9) + "\r\n", 1);
        BENCH.faulty("*0\r" + of(11) + "\r\n", 1);
        BENCH.faulty(ONE + "$0\r" + of(9) + "\r\n", 3);
        BENCH.faulty(ONE + "$0\r" + of(11) + "\r\n", 3);
    }

    /** "a number": the digits are 48 to 57. */
    private static void numberIsDigits() {
        BENCH.faulty("*" + of(47) + "\r\n", 1);
        BENCH.words("*" + of(48) + "\r\n", 0);
        BENCH.waits("*" + of(57) + "\r\n");
        BENCH.faulty("*" + of(58) + "\r\n", 1);
        BENCH.faulty("*" + of(48 + 128) + "\r\n", 1);
        BENCH.faulty("*0" + of(47) + "\r\n", 1);
        BENCH.faulty("*0" + of(58) + "\r\n", 1);
        BENCH.faulty(ONE + "$" + of(47) + "\r\n", 3);
        BENCH.words(ONE + "$" + of(48) + "\r\n\r\n", 0, "");
        BENCH.words(ONE + "$" + of(57) + "\r\n123456789\r\n", 0, "123456789");
        BENCH.faulty(ONE + "$" + of(58) + "\r\n", 3);
        BENCH.words("*10\r\n$10\r\n0123456789\r\n" + "$00\r\n\r\n".repeat(9), 0,
                "0123456789", "", "", "", "", "", "", "", "", "");
    }

    /** "perhaps with - ahead" (45): once, and nowhere else. */
    private static void numberMayHaveMinusAhead() {
        BENCH.faulty("*" + of(44) + "1\r\n", 1);
        BENCH.words("*" + of(45) + "1\r\n", 0);
        BENCH.faulty("*" + of(46) + "1\r\n", 1);
        BENCH.faulty("*--1\r\n", 1);
        BENCH.faulty("*1-\r\n", 1);
        BENCH.faulty("*1-1\r\n", 1);
        BENCH.faulty(ONE + "$" + of(44) + "0\r\n", 3);
        BENCH.words(ONE + "$" + of(45) + "0\r\n\r\n", 0, "");
        BENCH.faulty(ONE + "$" + of(46) + "0\r\n", 3);
        BENCH.faulty(ONE + "$--0\r\n", 3);
        BENCH.faulty(ONE + "$0-\r\n", 3);
    }

    /** "the number 1 to 6 digits", the - not being one. */
    private static void numberHasOneToSixDigits() {
        for (int digits = 0; digits <= 9; digits++) {
            String zeros = "0".repeat(digits);
            for (String sign : new String[] {"", "-"}) {
                if (digits >= 1 && digits <= 6) {
                    BENCH.words("*" + sign + zeros + "\r\n", 0);
                    BENCH.words(ONE + "$" + sign + zeros + "\r\n\r\n", 0, "");
                } else {
                    BENCH.faulty("*" + sign + zeros + "\r\n", 1);
                    BENCH.faulty(ONE + "$" + sign + zeros + "\r\n", 3);
                }
            }
        }
        BENCH.words("*000001\r\n$000001\r\nx\r\n", 0, "x");
        BENCH.faulty("*0000001\r\n", 1);
        BENCH.faulty(ONE + "$0000001\r\n", 3);
    }

    /** "With a number 0 or below for * there are no words." */
    private static void starNumberZeroOrBelow() {
        BENCH.words("*-999999\r\n$1", 2);
        BENCH.words("*-1024\r\n$1", 2);
        BENCH.words("*-1\r\n$1", 2);
        BENCH.words("*-0\r\n$1", 2);
        BENCH.words("*0\r\n$1", 2);
        BENCH.waits("*1\r\n$1");
        BENCH.words("*1\r\n$1\r\nx\r\n$1", 2, "x");
    }

    /** "whose number is above 1024 (fault 1, of a LINE of * )". */
    private static void starNumberUpTo1024() {
        BENCH.waits("*1023\r\n");
        BENCH.waits("*1024\r\n");
        BENCH.waits("*001024\r\n");
        BENCH.faulty("*1025\r\n", 1);
        BENCH.faulty("*001025\r\n", 1);
        BENCH.faulty("*16384\r\n", 1);
        BENCH.faulty("*999999\r\n", 1);
        BENCH.faulty("*1025\r\n" + "$0\r\n\r\n".repeat(1025), 1);
        BENCH.faulty("*1025\r\nx", 1);
    }

    private static void mostWords() {
        for (int count : new int[] {1023, 1024}) {
            RequestCutter x = Bench.holding("*" + count + "\r\n" + "$0\r\n\r\n".repeat(count - 1) + "$2\r\nyz\r");
            BENCH.cutsNothing(x, "all but the last byte of " + count + " words");
            Bench.send(x, "\n*");
            BENCH.due("cut() of " + count + " words", x.cut(), count);
            BENCH.due("waiting()", x.waiting(), 1);
            BENCH.due("size(0)", x.size(0), 0);
            BENCH.due("size of the last but one", x.size(count - 2), 0);
            BENCH.due("size of the last", x.size(count - 1), 2);
            BENCH.due("byte 1 of the last", x.byteOf(count - 1, 1), 'z');
            BENCH.due("byte 2 of the last", x.byteOf(count - 1, 2), RequestCutter.NONE);
            BENCH.hasNoWord(x, count + " words", count);
        }
        BENCH.faulty("*1024\r\n" + "$0\r\n\r\n".repeat(1023) + "x", 2);
        BENCH.faulty("*1024\r\n" + "$0\r\n\r\n".repeat(1023) + "$0\r\nx", 4);
    }

    /** "below 0 .. (fault 3, of a LINE of $ )". */
    private static void dollarNumberFromZero() {
        for (String head : new String[] {ONE, TWO}) {
            BENCH.faulty(head + "$-999999\r\n", 3);
            BENCH.faulty(head + "$-1\r\n", 3);
            BENCH.faulty(head + "$-000001\r\n", 3);
            BENCH.waits(head + "$-0\r\n");
            BENCH.waits(head + "$0\r\n");
            BENCH.waits(head + "$1\r\n");
        }
        BENCH.words(ONE + "$-0\r\n\r\n", 0, "");
        BENCH.words(ONE + "$0\r\n\r\n", 0, "");
        BENCH.words(ONE + "$1\r\n-\r\n", 0, "-");
    }

    /** "above 16384 (fault 3, of a LINE of $ )". */
    private static void dollarNumberUpTo16384() {
        for (String head : new String[] {ONE, TWO}) {
            BENCH.waits(head + "$1025\r\n");
            BENCH.waits(head + "$16383\r\n");
            BENCH.waits(head + "$16384\r\n");
            BENCH.waits(head + "$016384\r\n" + "x".repeat(9000));
            BENCH.faulty(head + "$16385\r\n", 3);
            BENCH.faulty(head + "$016385\r\n", 3);
            BENCH.faulty(head + "$999999\r\n", 3);
        }
    }

    /** So long a word needs more than the 512 calls that the document speaks of; it holds all the same. */
    private static void longestWord() {
        for (int size : new int[] {16383, 16384}) {
            RequestCutter x = Bench.holding(ONE + "$" + size + "\r\n" + "v".repeat(9999));
            Bench.send(x, "w".repeat(size - 9999 - 1));
            BENCH.cutsNothing(x, "all but a byte of " + size);
            Bench.send(x, "z");
            BENCH.cutsNothing(x, "a word of " + size + " without CR LF");
            Bench.send(x, "\r\n!");
            BENCH.cutsWords(x, "a word of " + size, 1, "v".repeat(9999) + "w".repeat(size - 10000) + "z");
        }
    }

    /** "as many bytes as that says": one too few waits, one too many stands where CR must be. */
    private static void wordHasAsManyBytes() {
        for (int size : new int[] {0, 1, 2, 15, 16, 17, 400}) {
            String word = "\n".repeat(size);
            String head = ONE + "$" + size + "\r\n";
            if (size > 0) {
                BENCH.waits(head + word.substring(1));
                BENCH.waits(head + word.substring(1) + "\r");
                BENCH.faulty(head + word.substring(1) + "\r\n", 4);
            }
            BENCH.waits(head + word);
            BENCH.faulty(head + word + "\n", 4);
            BENCH.faulty(head + word + "\n\r\n", 4);
            BENCH.words(head + word + "\r\n", 0, word);
            BENCH.words(head + word + "\r\n\n", 1, word);
        }
    }

    /** "another one where CR .. must be (4)" (13). */
    private static void wordEndsWithCr() {
        for (String head : new String[] {ONE + "$1\r\na", ONE + "$0\r\n", TWO + "$0\r\n"}) {
            BENCH.faulty(head + of(12), 4);
            BENCH.waits(head + of(13));
            BENCH.faulty(head + of(14), 4);
            BENCH.faulty(head + of(13 + 128), 4);
            BENCH.faulty(head + of(10), 4);
            BENCH.faulty(head + of(0), 4);
            BENCH.faulty(head + of(255), 4);
        }
    }

    /** "another one where .. LF must be (4)" (10). */
    private static void wordEndsWithLf() {
        for (String head : new String[] {ONE + "$1\r\na\r", ONE + "$0\r\n\r", TWO + "$0\r\n\r"}) {
            BENCH.faulty(head + of(9), 4);
            BENCH.due("cut() with LF at the end of a word", Bench.holding(head + of(10)).cut() > 0, true);
            BENCH.faulty(head + of(11), 4);
            BENCH.faulty(head + of(10 + 128), 4);
            BENCH.faulty(head + of(13), 4);
            BENCH.faulty(head + of(0), 4);
            BENCH.faulty(head + of(255), 4);
        }
    }

    /** "a LINE whose CR LF is not within its first 16 bytes (16 being there)". */
    private static void lineWithin16Bytes() {
        for (int cr = 2; cr <= 18; cr++) {
            String behind = "x".repeat(cr - 2) + "\r\n" + "x".repeat(4);
            int shows = Math.min(16, cr + 1);
            for (int there = 1; there <= behind.length(); there++) {
                oneLine("*" + behind.substring(0, there - 1), there >= shows, 1);
                oneLine(ONE + "$" + behind.substring(0, there - 1), there >= shows, 3);
                oneLine(TWO + "$" + behind.substring(0, there - 1), there >= shows, 3);
            }
        }
        BENCH.waits("*" + "1".repeat(14));
        BENCH.faulty("*" + "1".repeat(15), 1);
        BENCH.faulty("*" + "1".repeat(16), 1);
        BENCH.waits(ONE + "$" + "1".repeat(14));
        BENCH.faulty(ONE + "$" + "1".repeat(15), 3);
        BENCH.faulty(ONE + "$" + "1".repeat(16), 3);
    }

    private static void oneLine(String text, boolean shown, int fault) {
        if (shown) {
            BENCH.faulty(text, fault);
        } else {
            BENCH.waits(text);
        }
    }

    /** "Otherwise it is all up to LF (10 ..": the first of them. */
    private static void plainEndsWithLf() {
        BENCH.waits("a" + of(9));
        BENCH.words("a" + of(10), 0, "a");
        BENCH.waits("a" + of(11));
        BENCH.waits("a" + of(10 + 128));
        BENCH.waits("a\r");
        BENCH.words("a" + of(9) + of(11) + "\n", 0, "a" + of(9) + of(11));
        BENCH.words("\n", 0);
        BENCH.words("\n\n", 1);
        BENCH.words("a\nb\n", 2, "a");
    }

    /** "one CR ahead of it goes" (13): not two, and none elsewhere. */
    private static void plainLosesOneCr() {
        BENCH.words("a" + of(12) + "\n", 0, "a" + of(12));
        BENCH.words("a" + of(13) + "\n", 0, "a");
        BENCH.words("a" + of(14) + "\n", 0, "a" + of(14));
        BENCH.words("a\r\r\n", 0, "a\r");
        BENCH.words("\r\n", 0);
        BENCH.words("\r\r\n", 0, "\r");
        BENCH.words("\ra\n", 0, "\ra");
        BENCH.words("a\r \n", 0, "a\r");
        BENCH.words("a\n\r", 1, "a");
    }

    /** "its words parted by blanks (32)", one or more, also ahead and behind. */
    private static void plainPartedByBlanks() {
        BENCH.words("a" + of(31) + "b\n", 0, "a" + of(31) + "b");
        BENCH.words("a" + of(32) + "b\n", 0, "a", "b");
        BENCH.words("a" + of(33) + "b\n", 0, "a!b");
        BENCH.words("a" + of(32 + 128) + "b\n", 0, "a" + of(32 + 128) + "b");
        BENCH.words("a" + of(0) + "b" + of(9) + "\n", 0, "a" + of(0) + "b" + of(9));
        BENCH.words("  a  b  \n", 0, "a", "b");
        BENCH.words("  a  b  \r\n", 0, "a", "b");
        BENCH.words(" \n", 0);
        BENCH.words(" \r\n", 0);
        BENCH.words(" *1\r\n", 0, "*1");
    }

    /** "otherwise 2048 bytes without LF (5)". */
    private static void plainWithin2048Bytes() {
        for (int there = 2046; there <= 2050; there++) {
            String text = "x".repeat(there);
            oneLine(text, there >= 2048, 5);
            oneLine(" ".repeat(there), there >= 2048, 5);
            oneLine(text.substring(1) + "\r", there >= 2048, 5);
            longLine(text, "\n", there >= 2048);
            longLine(text, "\r\n", there + 1 >= 2048);
            RequestCutter x = Bench.holding(text);
            Bench.send(x, "\n");
            BENCH.due("cut() of " + there + " bytes, then LF", x.cut(), there >= 2048 ? -2 : 1);
        }
        RequestCutter x = Bench.holding("y ".repeat(1023) + "z\n");
        BENCH.due("cut() of as many words as go into 2048 bytes", x.cut(), 1024);
        BENCH.due("byteOf(1022, 0)", x.byteOf(1022, 0), 'y');
        BENCH.due("byteOf(1023, 0)", x.byteOf(1023, 0), 'z');
        BENCH.hasNoWord(x, "most plain words", 1024);
        BENCH.faulty("*" + "x".repeat(3000), 1);
        BENCH.waits(ONE + "$3000\r\n" + "x".repeat(2999));
    }

    private static void longLine(String text, String stop, boolean faulty) {
        if (faulty) {
            BENCH.faulty(text + stop, 5);
            return;
        }
        RequestCutter x = Bench.holding(text + stop);
        BENCH.due("cut() of " + text.length() + " bytes and LF", x.cut(), 1);
        BENCH.due("size(0) of " + text.length() + " bytes and LF", x.size(0), text.length());
        BENCH.due("fault() of " + text.length() + " bytes and LF", x.fault(), 0);
        BENCH.due("waiting() after " + text.length() + " bytes and LF", x.waiting(), 0);
    }

    /** "A FAULT is told as soon as the bytes that are there show it": with this byte, not before it. */
    private static void faultsAreToldAtOnce() {
        BENCH.faultyWithTheLast("*x\r\n", 1);
        BENCH.faultyWithTheLast("*1025\r\n", 1);
        BENCH.faultyWithTheLast("*1234567\r\n", 1);
        BENCH.faultyWithTheLast("*" + "1".repeat(15), 1);
        BENCH.faultyWithTheLast(ONE + "x", 2);
        BENCH.faultyWithTheLast(TWO + "\r", 2);
        BENCH.faultyWithTheLast(TWO + "$x\r\n", 3);
        BENCH.faultyWithTheLast(TWO + "$-1\r\n", 3);
        BENCH.faultyWithTheLast(TWO + "$16385\r\n", 3);
        BENCH.faultyWithTheLast(TWO + "$" + "1".repeat(15), 3);
        BENCH.faultyWithTheLast(TWO + "$1\r\nxx", 4);
        BENCH.faultyWithTheLast(TWO + "$1\r\nx\rx", 4);
        BENCH.faultyWithTheLast(TWO + "$0\r\n\n", 4);
        RequestCutter x = Bench.holding("x".repeat(2047));
        BENCH.cutsNothing(x, "2047 bytes");
        Bench.send(x, "x");
        BENCH.cutsFault(x, "2048 bytes", 5);
    }

    /** "A REQUEST is cut from its beginning": the one that came first, whatever stands behind it. */
    private static void requestIsCutFromTheBeginning() {
        RequestCutter x = Bench.holding(ONE + "$1\r\na\r\nb c\n*0\r\n\r\n*x\r\nd\n");
        BENCH.cutsWords(x, "first", 16, "a");
        BENCH.cutsWords(x, "second", 12, "b", "c");
        BENCH.cutsWords(x, "third", 8);
        BENCH.cutsWords(x, "fourth", 6);
        BENCH.cutsFault(x, "fifth", 1);
        BENCH.due("drop(4)", x.drop(4), true);
        BENCH.cutsWords(x, "sixth", 0, "d");
    }
}
