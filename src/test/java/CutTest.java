import java.util.Arrays;

/** Promises 5 to 8: what a cut answers and what can be asked after it. */
public final class CutTest {
    private static final Bench BENCH = new Bench();

    public static void main(String[] args) {
        plainWords();
        plainReach();
        countedWords();
        countedWithoutWords();
        countedLimits();
        everyPrefixWaits();
        brokenStarLines();
        brokenDollarLines();
        unfinishedLines();
        wrongMark();
        wrongWordEnd();
        firstFaultIsTold();
        faultOfTheLatestCut();
        wordsOfTheLatestCut();
        wordsAndBytesOutside();
        BENCH.close();
    }

    private static void plainWords() {
        BENCH.words("ping\n", 0, "ping");
        BENCH.words("ping\r\n", 0, "ping");
        BENCH.words("  set  a   b \r\n", 0, "set", "a", "b");
        BENCH.words("a\r\r\n", 0, "a\r");
        BENCH.words("a\rb \rc\n", 0, "a\rb", "\rc");
        BENCH.words("a \r\n", 0, "a");
        BENCH.words("a\tb\0c\n", 0, "a\tb\0c");
        BENCH.words("\u00ff\u0080\u00fe \u00ff\n", 0, "\u00ff\u0080\u00fe", "\u00ff");
        BENCH.words("\n", 0);
        BENCH.words("\r\n", 0);
        BENCH.words("\r\r\n", 0, "\r");
        BENCH.words("   \n", 0);
        BENCH.words(" \r\n", 0);
        BENCH.words(" \r \n", 0, "\r");
        BENCH.words("\n\n", 1);
        BENCH.words("a\n\rb\n", 3, "a");
        BENCH.words("$3\r\nabc\r\n", 5, "$3");
        BENCH.words(" *1\r\n", 0, "*1");
        BENCH.words("-1\r\n", 0, "-1");
        BENCH.waits("");
        BENCH.waits("ping");
        BENCH.waits("ping\r");
        BENCH.waits(" ");
    }

    private static void plainReach() {
        BENCH.waits("x".repeat(2047));
        BENCH.words("x".repeat(2047) + "\n", 0, "x".repeat(2047));
        BENCH.words("x".repeat(2046) + "\r\n", 0, "x".repeat(2046));
        BENCH.faulty("x".repeat(2048), 5);
        BENCH.faulty("x".repeat(2047) + "\r", 5);
        BENCH.faulty(" ".repeat(2048), 5);
        BENCH.faulty("x".repeat(2048) + "\n", 5);
        BENCH.faulty("x".repeat(2047) + "\r\n", 5);
        BENCH.faulty("x".repeat(5000) + "\n", 5);
        BENCH.words("\n" + "x".repeat(2048), 2048);
        String[] most = new String[1024];
        Arrays.fill(most, "x");
        BENCH.words(String.join(" ", most) + "\n", 0, most);
    }

    private static void countedWords() {
        BENCH.words("*1\r\n$4\r\nping\r\n", 0, "ping");
        BENCH.words("*2\r\n$3\r\nget\r\n$0\r\n\r\n", 0, "get", "");
        BENCH.words("*3\r\n$1\r\n \r\n$2\r\n\r\n\r\n$4\r\n$1\r\n\r\nrest", 4, " ", "\r\n", "$1\r\n");
        BENCH.words("*1\r\n$3\r\n\u00ff\0\u0080\r\n*1\r\n", 4, "\u00ff\0\u0080");
        BENCH.words("*000001\r\n$000002\r\nab\r\n", 0, "ab");
        BENCH.words("*1\r\n$-0\r\n\r\n", 0, "");
        BENCH.words("*1\r\n$-00000\r\n\r\n", 0, "");
    }

    private static void countedWithoutWords() {
        BENCH.words("*0\r\n", 0);
        BENCH.words("*-0\r\n$", 1);
        BENCH.words("*-1\r\nx", 1);
        BENCH.words("*-999999\r\n\n", 1);
        BENCH.words("*000000\r\n", 0);
    }

    private static void countedLimits() {
        String[] most = new String[1024];
        Arrays.fill(most, "");
        most[0] = "first";
        most[1023] = "last";
        StringBuilder text = new StringBuilder("*1024\r\n");
        for (String word : most) {
            text.append("$").append(word.length()).append("\r\n").append(word).append("\r\n");
        }
        BENCH.words(text + "*", 1, most);
        BENCH.waits("*1024\r\n");
        BENCH.faulty("*1025\r\n", 1);
        BENCH.faulty("*999999\r\n", 1);
        BENCH.waits("*1\r\n$16384\r\n" + "w".repeat(9000));
        BENCH.faulty("*1\r\n$16385\r\n", 3);
        BENCH.faulty("*1\r\n$999999\r\n", 3);
        BENCH.words("*1\r\n$9999\r\n" + "w".repeat(9999) + "\r\n", 0, "w".repeat(9999));
        longestWord();
    }

    /** Beyond the 512 calls that the document speaks of, as so long a word needs more. */
    private static void longestWord() {
        RequestCutter x = Bench.holding("*2\r\n$16384\r\n" + "w".repeat(10000));
        BENCH.cutsNothing(x, "a part of the longest word");
        Bench.send(x, "v".repeat(6384) + "\r\n$1\r\nu\r");
        BENCH.cutsNothing(x, "all but LF of the longest");
        Bench.send(x, "\nrest");
        BENCH.cutsWords(x, "the longest word", 4, "w".repeat(10000) + "v".repeat(6384), "u");
    }

    private static void everyPrefixWaits() {
        String[] wholes = {"*3\r\n$3\r\nset\r\n$0\r\n\r\n$12\r\n0123456789ab\r\n", "*-12345\r\n", "  a b\r\n"};
        for (String whole : wholes) {
            RequestCutter x = new RequestCutter();
            for (int i = 0; i < whole.length(); i++) {
                BENCH.cutsNothing(x, i + " bytes of " + Bench.shown(whole));
                BENCH.due("arrive()", Bench.send(x, whole.substring(i, i + 1)), i + 1);
            }
            BENCH.due("cut() of all of " + Bench.shown(whole), x.cut() >= 0, true);
            BENCH.due("waiting()", x.waiting(), 0);
        }
    }

    private static void brokenStarLines() {
        String[] lines = {"*\r\n", "*-\r\n", "*x\r\n", "*1x\r\n", "*x1\r\n", "* 1\r\n", "*1 \r\n", "*+1\r\n",
            "*--1\r\n", "*1-\r\n", "*1234567\r\n", "*0000001\r\n", "*-0000001\r\n", "*1\n\r\n", "*1\r\r\n", "*\n1\r\n",
            "*/\r\n", "*:\r\n", "*1/\r\n", "*1:\r\n", "*\u00b1\r\n", "**1\r\n", "*$1\r\n", "*1\rx\r\n", "*x234567890123\r\n"};
        for (String line : lines) {
            BENCH.faulty(line, 1);
            BENCH.faulty(line + "$1\r\na\r\n", 1);
            BENCH.waits(line.substring(0, line.length() - 1));
        }
        BENCH.waits("*1\n$1\n12345678\n");
        BENCH.faulty("*1\n$1\n123456789\n", 1);
        BENCH.faulty("*" + "1".repeat(15), 1);
        BENCH.faulty("*" + "1".repeat(14) + "\r", 1);
        BENCH.faulty("*" + "1".repeat(14) + "\r\n", 1);
        BENCH.faulty("*" + "1".repeat(13) + "\n\r\n", 1);
        BENCH.faulty("*" + "1".repeat(13) + "\r\n", 1);
    }

    private static void brokenDollarLines() {
        String[] lines = {"$\r\n", "$-\r\n", "$x\r\n", "$1x\r\n", "$ 1\r\n", "$+1\r\n", "$1234567\r\n", "$0000001\r\n",
            "$-1\r\n", "$-999999\r\n", "$16385\r\n", "$1\n\r\n", "$1\r\r\n", "$$1\r\n"};
        String[] heads = {"*1\r\n", "*2\r\n$2\r\nab\r\n"};
        for (String head : heads) {
            for (String line : lines) {
                BENCH.faulty(head + line, 3);
                BENCH.faulty(head + line + "a\r\n", 3);
                BENCH.waits(head + line.substring(0, line.length() - 1));
            }
            BENCH.faulty(head + "$" + "1".repeat(15), 3);
            BENCH.faulty(head + "$" + "1".repeat(14) + "\r", 3);
            BENCH.faulty(head + "$" + "1".repeat(14) + "\r\n", 3);
            BENCH.faulty(head + "$" + "1".repeat(13) + "\r\n", 3);
        }
    }

    /** Without CR LF a LINE is faulty at its sixteenth byte, and not before. */
    private static void unfinishedLines() {
        BENCH.waits("*");
        BENCH.waits("*x");
        BENCH.waits("*9999999");
        BENCH.waits("*1\r");
        BENCH.waits("*1\rx");
        BENCH.waits("*1\n");
        BENCH.waits("*" + "1".repeat(14));
        BENCH.waits("*" + "1".repeat(13) + "\r");
        BENCH.waits("*1\r\n$");
        BENCH.waits("*1\r\n$x");
        BENCH.waits("*1\r\n$-1\r");
        BENCH.waits("*1\r\n$" + "1".repeat(14));
        BENCH.waits("*1\r\n$" + "1".repeat(13) + "\r");
    }

    private static void wrongMark() {
        BENCH.faulty("*1\r\nx", 2);
        BENCH.faulty("*1\r\n*", 2);
        BENCH.faulty("*1\r\n\r", 2);
        BENCH.faulty("*1\r\n\0", 2);
        BENCH.faulty("*1\r\n1\r\na\r\n", 2);
        BENCH.faulty("*2\r\n$1\r\na\r\n%", 2);
        BENCH.faulty("*1024\r\n\u00a4", 2);
        BENCH.words("*1\r\n$1\r\na\r\n%", 1, "a");
    }

    private static void wrongWordEnd() {
        BENCH.faulty("*1\r\n$1\r\nab", 4);
        BENCH.faulty("*1\r\n$1\r\na\n", 4);
        BENCH.faulty("*1\r\n$1\r\na\rb", 4);
        BENCH.faulty("*1\r\n$1\r\na\r\r\n", 4);
        BENCH.faulty("*1\r\n$0\r\na", 4);
        BENCH.faulty("*1\r\n$0\r\n$", 4);
        BENCH.faulty("*2\r\n$1\r\na\r\n$1\r\nb\n", 4);
        BENCH.faulty("*1\r\n$1\r\n\r\n\r\n", 4);
        BENCH.waits("*1\r\n$1\r\na");
        BENCH.waits("*1\r\n$1\r\na\r");
        BENCH.waits("*1\r\n$2\r\n\r\n");
        BENCH.waits("*1\r\n$2\r\n\r\n\r");
    }

    private static void firstFaultIsTold() {
        BENCH.faulty("*2\r\n$1\r\nabx", 4);
        BENCH.faulty("*2\r\n$x\r\nabx", 3);
        BENCH.faulty("*2\r\nx$1\r\nabx", 2);
        BENCH.faulty("*x\r\nx" + "1".repeat(3000), 1);
        BENCH.words("*0\r\n*x\r\n", 4);
        BENCH.waits("*1\r\n$99\r\n*x\r\n");
    }

    private static void faultOfTheLatestCut() {
        RequestCutter x = Bench.holding("*x\r\n");
        BENCH.due("fault() before a cut", x.fault(), 0);
        BENCH.cutsFault(x, "*x", 1);
        x.drop(4);
        Bench.send(x, "*1\r\n");
        BENCH.due("fault() until the next cut", x.fault(), 1);
        BENCH.cutsNothing(x, "after a fault");
        Bench.send(x, "y");
        BENCH.cutsFault(x, "y for $", 2);
        x.drop(5);
        Bench.send(x, "*1\r\n$1\r\nz\r\n");
        BENCH.cutsWords(x, "after another fault", 0, "z");
    }

    private static void wordsOfTheLatestCut() {
        RequestCutter x = Bench.holding("*2\r\n$2\r\nab\r\n$1\r\nc\r\nlonger words here\n*1\r\n$2\r\nno");
        BENCH.cutsWords(x, "first", 28, "ab", "c");
        BENCH.cutsWords(x, "second", 10, "longer", "words", "here");
        BENCH.cutsNothing(x, "third");
        Bench.send(x, "\rX");
        BENCH.cutsFault(x, "third, broken", 4);
        x.drop(x.waiting());
        BENCH.cutsNothing(x, "nothing left");
        Bench.send(x, "*1\r\n$1\r\ne\r\n");
        BENCH.cutsWords(x, "last", 0, "e");
        x.arrive();
        Bench.lay(x, "tape");
        BENCH.due("byteOf stays until the next cut", x.byteOf(0, 0), 'e');
        BENCH.due("size stays until the next cut", x.size(0), 1);
        BENCH.cutsNothing(x, "bytes on the tape alone");
    }

    private static void wordsAndBytesOutside() {
        RequestCutter x = Bench.holding("ab cde\n");
        BENCH.due("cut()", x.cut(), 2);
        int[] places = {-1, 2, 3, 1024, Integer.MAX_VALUE, Integer.MIN_VALUE};
        for (int place : places) {
            BENCH.due("byteOf(0, " + place + ")", x.byteOf(0, place), RequestCutter.NONE);
            BENCH.due("byteOf(" + place + ", 0)", x.byteOf(place, 0), RequestCutter.NONE);
            BENCH.due("byteOf both " + place, x.byteOf(place, place), RequestCutter.NONE);
            BENCH.due("size(" + place + ")", x.size(place), RequestCutter.NONE);
        }
        BENCH.due("byteOf(1, 2)", x.byteOf(1, 2), 'e');
        BENCH.due("byteOf(1, 3)", x.byteOf(1, 3), RequestCutter.NONE);
    }
}
