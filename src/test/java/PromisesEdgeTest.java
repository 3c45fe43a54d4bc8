/**
 * The edges in the document's promises 1 to 10: a method for each sentence that names one. The limits of
 * the tape (10240) and of the input (65536) can be met only beyond the 512 calls that the document
 * speaks of; they hold there all the same.
 */
public final class PromisesEdgeTest {
    private static final Bench BENCH = new Bench();
    private static final int[] FAR = {Integer.MIN_VALUE, Integer.MIN_VALUE + 1, -65536, Integer.MAX_VALUE - 1,
        Integer.MAX_VALUE};

    public static void main(String[] args) {
        newHasNoInput();
        newHasNothingCut();
        newHasAnEmptyTape();
        newSharesNothing();
        feedAppendsTwenty();
        feedHighestFirst();
        feedUpTo10240();
        feedRefusedChangesNothing();
        endKeepsFromNoneToAll();
        endRefusesMoreThanThereIs();
        endRefusesBelowZero();
        endLeavesTheInput();
        arriveOfAnEmptyTape();
        arriveEmptiesTheTape();
        arriveUpTo65536();
        arriveLosesTheTapeAlone();
        cutOfNoInput();
        cutTakesItsBytes();
        cutNoneChangesNothing();
        cutFaultLeavesTheInput();
        cutWordsUntilTheNext();
        faultOfTheLatestCut();
        sizeOfNoWord();
        sizeOfAnEmptyWord();
        byteOfEveryValue();
        byteOfOutside();
        dropFromNoneToAll();
        dropRefusesMoreThanThereIs();
        dropRefusesBelowZero();
        dropLeavesCutAndTape();
        waitingCountsTheInputAlone();
        BENCH.close();
    }

    private static boolean feedSame(RequestCutter x, int number) {
        return x.feed(number, number, number, number, number);
    }

    // Promise 1: "No input, nothing cut, an empty tape."

    private static void newHasNoInput() {
        BENCH.due("waiting() of a new one", new RequestCutter().waiting(), 0);
        BENCH.due("drop(0) of a new one", new RequestCutter().drop(0), true);
        BENCH.due("drop(1) of a new one", new RequestCutter().drop(1), false);
        BENCH.due("cut() of a new one", new RequestCutter().cut(), RequestCutter.NONE);
    }

    private static void newHasNothingCut() {
        BENCH.due("fault() of a new one", new RequestCutter().fault(), 0);
        BENCH.hasNoWord(new RequestCutter(), "a new one", 0);
    }

    private static void newHasAnEmptyTape() {
        BENCH.due("arrive() of a new one", new RequestCutter().arrive(), 0);
        BENCH.due("end(0) of a new one", new RequestCutter().end(0), true);
        BENCH.due("end(1) of a new one", new RequestCutter().end(1), false);
    }

    private static void newSharesNothing() {
        RequestCutter x = Bench.holding("one two\n*x\r\n");
        BENCH.due("cut()", x.cut(), 2);
        Bench.lay(x, "tape");
        RequestCutter y = new RequestCutter();
        BENCH.hasNoWord(y, "a second one", 0);
        BENCH.due("arrive() of a second one", y.arrive(), 0);
        BENCH.cutsNothing(y, "a second one");
        BENCH.due("size(1) of the first", x.size(1), 3);
        BENCH.due("arrive() of the first", x.arrive(), 8);
    }

    // Promise 2: "Appends twenty bytes to the tape, of each number the highest first; false, changing
    // nothing, when it would have more than 10240."

    private static void feedAppendsTwenty() {
        RequestCutter x = new RequestCutter();
        for (int times = 1; times <= 8; times++) {
            BENCH.due("feed number " + times, feedSame(x, 0), true);
            BENCH.due("end one too far", x.end(20 * times + 1), false);
            BENCH.due("end at all", x.end(20 * times), true);
            BENCH.due("waiting() before arrive", x.waiting(), 0);
        }
        BENCH.due("arrive()", x.arrive(), 160);
    }

    private static void feedHighestFirst() {
        int[] numbers = {0x01020304, 0xfffefdfc, 0x80000001, 0x7fffff7f, 0x00010080};
        RequestCutter x = new RequestCutter();
        x.feed(numbers[0], numbers[1], numbers[2], numbers[3], numbers[4]);
        x.feed(0x0a000000, 0, 0, 0, 0);
        BENCH.due("end(21)", x.end(21), true);
        BENCH.due("arrive()", x.arrive(), 21);
        BENCH.due("cut()", x.cut(), 1);
        for (int i = 0; i < 20; i++) {
            BENCH.due("byte " + i, x.byteOf(0, i), numbers[i / 4] >>> (24 - 8 * (i % 4)) & 255);
        }
        BENCH.due("byte 20", x.byteOf(0, 20), RequestCutter.NONE);
    }

    private static void feedUpTo10240() {
        for (int there : new int[] {10219, 10220, 10221, 10239, 10240}) {
            RequestCutter x = new RequestCutter();
            Bench.lay(x, "t".repeat(there));
            boolean fits = there <= 10220;
            BENCH.due("feed onto " + there, feedSame(x, 0), fits);
            BENCH.due("end behind a feed onto " + there, x.end(there + 1), fits);
            BENCH.due("arrive() of all on the tape", x.arrive(), fits ? there + 1 : there);
        }
    }

    private static void feedRefusedChangesNothing() {
        RequestCutter x = new RequestCutter();
        Bench.lay(x, "a\n" + "b".repeat(10236) + "\nc");
        BENCH.due("feed onto 10240", feedSame(x, 0x7a7a7a7a), false);
        BENCH.due("feed onto 10240 again", feedSame(x, 0x7a7a7a7a), false);
        BENCH.due("arrive()", x.arrive(), 10240);
        BENCH.cutsWords(x, "the tape's beginning", 10238, "a");
        BENCH.due("drop(10236)", x.drop(10236), true);
        BENCH.cutsWords(x, "the tape's end", 1);
        BENCH.due("feed after arrive", feedSame(x, 0x0a0a0a0a), true);
        BENCH.due("arrive()", x.arrive(), 21);
        BENCH.cutsWords(x, "the last byte and the next", 19, "c");
    }

    // Promise 3: "Of the tape only the first n bytes count; false, changing nothing, when it has not so
    // many, or n is below 0."

    private static void endKeepsFromNoneToAll() {
        for (int n = 0; n <= 40; n++) {
            RequestCutter x = new RequestCutter();
            feedSame(x, 0x61626364);
            feedSame(x, 0x65666768);
            BENCH.due("end(" + n + ") of 40", x.end(n), true);
            BENCH.due("end(" + (n + 1) + ") after end(" + n + ")", x.end(n + 1), false);
            BENCH.due("end(" + n + ") again", x.end(n), true);
            BENCH.due("arrive() after end(" + n + ")", x.arrive(), n);
            BENCH.due("arrive() of LF", Bench.send(x, "\n"), n + 1);
            String all = "abcd".repeat(5) + "efgh".repeat(5);
            BENCH.due("cut() after end(" + n + ")", x.cut(), n == 0 ? 0 : 1);
            BENCH.due("what end(" + n + ") kept", n == 0 || all.substring(0, n).equals(Bench.word(x, 0)), true);
        }
    }

    private static void endRefusesMoreThanThereIs() {
        for (int n : new int[] {21, 22, 10240, 10241, 65536, Integer.MAX_VALUE - 1, Integer.MAX_VALUE}) {
            endRefuses(n);
        }
        BENCH.due("end(1) of an empty tape", new RequestCutter().end(1), false);
        RequestCutter x = Bench.holding("in the input");
        BENCH.due("end(1), all bytes being in the input", x.end(1), false);
    }

    private static void endRefusesBelowZero() {
        for (int n : new int[] {-1, -2, -20, Integer.MIN_VALUE + 1, Integer.MIN_VALUE}) {
            endRefuses(n);
            BENCH.due("end(" + n + ") of an empty tape", new RequestCutter().end(n), false);
        }
    }

    private static void endRefuses(int n) {
        RequestCutter x = new RequestCutter();
        x.feed(0x61626364, 0x61626364, 0x61626364, 0x61626364, 0x6162630a);
        BENCH.due("end(" + n + ") of 20", x.end(n), false);
        BENCH.due("arrive() after it", x.arrive(), 20);
        BENCH.cutsWords(x, "after end(" + n + ")", 0, "abcdabcdabcdabcdabc");
    }

    private static void endLeavesTheInput() {
        RequestCutter x = Bench.holding("input\n");
        Bench.lay(x, "tape");
        BENCH.due("end(0)", x.end(0), true);
        BENCH.due("waiting() after end", x.waiting(), 6);
        BENCH.due("arrive() after end(0)", x.arrive(), 6);
        BENCH.cutsWords(x, "end(0)", 0, "input");
    }

    // Promise 4: "The tape's bytes come to the input (the tape is empty then): how many bytes wait now;
    // NONE, all of them being lost (those on the tape), when that would be more than 65536."

    private static void arriveOfAnEmptyTape() {
        BENCH.due("arrive() of nothing to nothing", new RequestCutter().arrive(), 0);
        RequestCutter x = Bench.holding("abc");
        BENCH.due("arrive() of nothing", x.arrive(), 3);
        BENCH.due("waiting()", x.waiting(), 3);
    }

    private static void arriveEmptiesTheTape() {
        RequestCutter x = new RequestCutter();
        Bench.lay(x, "abc");
        BENCH.due("arrive()", x.arrive(), 3);
        BENCH.due("end(1) after arrive", x.end(1), false);
        BENCH.due("end(0) after arrive", x.end(0), true);
        BENCH.due("arrive() again", x.arrive(), 3);
        BENCH.due("arrive() of two more", Bench.send(x, "d\n"), 5);
        BENCH.cutsWords(x, "arrived twice", 0, "abcd");
    }

    private static RequestCutter filledTo(int count) {
        RequestCutter x = new RequestCutter();
        for (int there = 0; there < count; there += 10240) {
            int more = Math.min(10240, count - there);
            BENCH.due("arrive()", Bench.send(x, "i".repeat(more)), there + more);
        }
        return x;
    }

    private static void arriveUpTo65536() {
        for (int there : new int[] {55295, 55296, 55297, 65515, 65535, 65536}) {
            for (int more : new int[] {0, 1, 2, 20, 10239, 10240}) {
                int both = there + more;
                RequestCutter x = filledTo(there);
                int due = both <= 65536 ? both : RequestCutter.NONE;
                BENCH.due("arrive() of " + more + " to " + there, Bench.send(x, "n".repeat(more)), due);
                BENCH.due("waiting() after it", x.waiting(), both <= 65536 ? both : there);
            }
        }
    }

    private static void arriveLosesTheTapeAlone() {
        RequestCutter x = filledTo(65530);
        BENCH.due("arrive() of one too many", Bench.send(x, "1234567"), RequestCutter.NONE);
        BENCH.due("end(1) after the loss", x.end(1), false);
        BENCH.due("arrive() after the loss", x.arrive(), 65530);
        BENCH.due("arrive() of no more than fit", Bench.send(x, "ab cd\n"), 65536);
        BENCH.due("drop(65530)", x.drop(65530), true);
        BENCH.cutsWords(x, "behind the loss", 0, "ab", "cd");
        BENCH.due("arrive() after all is used", Bench.send(x, "e\n"), 2);
        BENCH.cutsWords(x, "after all is used", 0, "e");
    }

    // Promise 5: "A request is cut: how many words it has (its bytes go from the input, its words can be
    // asked for until the next call of this); NONE when there is no whole one; -2 when there is a fault
    // (the input stays)."

    private static void cutOfNoInput() {
        BENCH.waits("");
        RequestCutter x = new RequestCutter();
        Bench.lay(x, "a\n");
        BENCH.cutsNothing(x, "a whole request on the tape");
        BENCH.due("arrive()", x.arrive(), 2);
        BENCH.cutsWords(x, "arrived", 0, "a");
        BENCH.cutsNothing(x, "all used");
    }

    private static void cutTakesItsBytes() {
        BENCH.words("\n", 0);
        BENCH.words("\n*", 1);
        BENCH.words("*0\r\n*", 1);
        BENCH.words("*1\r\n$0\r\n\r\n\r", 1, "");
        BENCH.words("a\r\n\n", 1, "a");
    }

    private static void cutNoneChangesNothing() {
        String whole = "*2\r\n$1\r\na\r\n$2\r\nbc\r\n";
        for (int there = 0; there < whole.length(); there++) {
            RequestCutter x = Bench.holding(whole.substring(0, there));
            BENCH.cutsNothing(x, there + " bytes");
            BENCH.cutsNothing(x, there + " bytes again");
            Bench.send(x, whole.substring(there) + "!");
            BENCH.cutsWords(x, there + " bytes, then the rest", 1, "a", "bc");
        }
    }

    private static void cutFaultLeavesTheInput() {
        String[] faulty = {"*1x\r\n", "*1\r\nx", "*1\r\n$x\r\n", "*1\r\n$0\r\nxx\n", "x".repeat(2048)};
        for (int i = 0; i < faulty.length; i++) {
            RequestCutter x = Bench.holding(faulty[i]);
            BENCH.cutsFault(x, Bench.shown(faulty[i]), i + 1);
            BENCH.due("arrive() after the fault", Bench.send(x, "\n"), faulty[i].length() + 1);
            BENCH.cutsFault(x, Bench.shown(faulty[i]) + " and LF", i + 1);
            BENCH.due("drop of its first byte", x.drop(1), true);
            BENCH.due("cut() of what stayed", x.cut() > 0, true);
        }
    }

    private static void cutWordsUntilTheNext() {
        for (String next : new String[] {"", "b", "b\n", "\n", "*0\r\n", "*x\r\n", "*1\r\n$1\r\nb\rx"}) {
            RequestCutter x = Bench.holding("long words\n" + next);
            BENCH.due("cut()", x.cut(), 2);
            x.feed(1, 2, 3, 4, 5);
            x.end(3);
            x.arrive();
            x.drop(0);
            x.waiting();
            x.fault();
            BENCH.due("size(0) before the next cut", x.size(0), 4);
            BENCH.due("word 1 before the next cut", "words".equals(Bench.word(x, 1)), true);
            x.cut();
            BENCH.due("size(1) after the next cut", x.size(1), RequestCutter.NONE);
            BENCH.due("byteOf(1, 0) after the next cut", x.byteOf(1, 0), RequestCutter.NONE);
            BENCH.due("byteOf(0, 1) after the next cut", x.byteOf(0, 1), RequestCutter.NONE);
        }
    }

    // Promise 6: "The fault that the latest cut told; 0 for none."

    private static void faultOfTheLatestCut() {
        String[] faulty = {"*\r\n", "*1\r\n#", "*1\r\n$\r\n", "*1\r\n$0\r\n\n", " ".repeat(2048)};
        for (int i = 0; i < faulty.length; i++) {
            RequestCutter x = Bench.holding(faulty[i]);
            BENCH.due("fault() before the cut", x.fault(), 0);
            BENCH.due("cut()", x.cut(), -2);
            BENCH.due("drop of all", x.drop(faulty[i].length()), true);
            BENCH.due("arrive()", Bench.send(x, "ab"), 2);
            BENCH.due("fault() until the next cut", x.fault(), i + 1);
            BENCH.due("fault() asked again", x.fault(), i + 1);
            BENCH.due("cut() of no whole one", x.cut(), RequestCutter.NONE);
            BENCH.due("fault() after NONE", x.fault(), 0);
            BENCH.due("arrive()", Bench.send(x, "\n*x\r\n"), 7);
            BENCH.due("cut() of a whole one", x.cut(), 1);
            BENCH.due("fault() after a whole one", x.fault(), 0);
            BENCH.due("cut() of another fault", x.cut(), -2);
            BENCH.due("fault() after another", x.fault(), 1);
        }
    }

    // Promise 7: "How many bytes word w of the latest cut has; NONE when there is none."

    private static void sizeOfNoWord() {
        RequestCutter x = Bench.holding("a bc def\n");
        BENCH.due("size(0) before a cut", x.size(0), RequestCutter.NONE);
        BENCH.due("cut()", x.cut(), 3);
        BENCH.due("size(-1)", x.size(-1), RequestCutter.NONE);
        BENCH.due("size(0)", x.size(0), 1);
        BENCH.due("size(2)", x.size(2), 3);
        BENCH.due("size(3)", x.size(3), RequestCutter.NONE);
        for (int w : FAR) {
            BENCH.due("size(" + w + ")", x.size(w), RequestCutter.NONE);
        }
    }

    private static void sizeOfAnEmptyWord() {
        RequestCutter x = Bench.holding("*2\r\n$0\r\n\r\n$-0\r\n\r\n*0\r\n");
        BENCH.due("cut()", x.cut(), 2);
        BENCH.due("size(0)", x.size(0), 0);
        BENCH.due("size(1)", x.size(1), 0);
        BENCH.due("size(2)", x.size(2), RequestCutter.NONE);
        BENCH.due("byteOf(0, 0)", x.byteOf(0, 0), RequestCutter.NONE);
        BENCH.due("byteOf(1, 0)", x.byteOf(1, 0), RequestCutter.NONE);
        BENCH.due("cut() without words", x.cut(), 0);
        BENCH.due("size(0) without words", x.size(0), RequestCutter.NONE);
    }

    // Promise 8: "Byte i of a word; NONE when there is none."

    private static void byteOfEveryValue() {
        StringBuilder all = new StringBuilder();
        for (int b = 0; b < 256; b++) {
            all.append((char) b);
        }
        BENCH.words("*1\r\n$256\r\n" + all + "\r\n", 0, all.toString());
        String plain = all.toString().replace("\n", "").replace(" ", "");
        BENCH.words(plain + "\r\n", 0, plain);
    }

    private static void byteOfOutside() {
        RequestCutter x = Bench.holding("*3\r\n$2\r\nab\r\n$1\r\nc\r\n$2\r\nde\r\nrest");
        BENCH.due("cut()", x.cut(), 3);
        for (int w = 0; w < 3; w++) {
            BENCH.due("byteOf(" + w + ", -1)", x.byteOf(w, -1), RequestCutter.NONE);
            BENCH.due("byteOf(" + w + ", size)", x.byteOf(w, x.size(w)), RequestCutter.NONE);
            for (int i : FAR) {
                BENCH.due("byteOf(" + w + ", " + i + ")", x.byteOf(w, i), RequestCutter.NONE);
                BENCH.due("byteOf(" + i + ", " + w + ")", x.byteOf(i, w), RequestCutter.NONE);
            }
        }
        BENCH.due("byteOf(0, 0)", x.byteOf(0, 0), 'a');
        BENCH.due("byteOf(0, 1)", x.byteOf(0, 1), 'b');
        BENCH.due("byteOf(2, 1)", x.byteOf(2, 1), 'e');
        BENCH.due("byteOf(-1, 0)", x.byteOf(-1, 0), RequestCutter.NONE);
        BENCH.due("byteOf(3, 0)", x.byteOf(3, 0), RequestCutter.NONE);
    }

    // Promise 9: "The first n bytes of the input go; false when there are not so many."

    private static void dropFromNoneToAll() {
        String text = "abcdefg\n";
        for (int n = 0; n <= text.length(); n++) {
            RequestCutter x = Bench.holding(text);
            BENCH.due("drop(" + n + ")", x.drop(n), true);
            BENCH.due("waiting() after drop(" + n + ")", x.waiting(), text.length() - n);
            BENCH.due("drop of one more than is left", x.drop(text.length() - n + 1), false);
            Bench.send(x, "z\n");
            BENCH.due("cut() after drop(" + n + ")", x.cut(), n == 7 ? 0 : 1);
            String left = n == 8 ? "z" : text.substring(n, 7);
            BENCH.due("what drop(" + n + ") left", n == 7 || left.equals(Bench.word(x, 0)), true);
        }
    }

    private static void dropRefusesMoreThanThereIs() {
        for (int n : new int[] {4, 5, 65536, 65537, Integer.MAX_VALUE - 1, Integer.MAX_VALUE}) {
            dropRefuses(n);
        }
        BENCH.due("drop(1) of no input", new RequestCutter().drop(1), false);
        BENCH.due("drop(1) of what is used", dropOfUsed(1), false);
        BENCH.due("drop(0) of what is used", dropOfUsed(0), true);
    }

    private static boolean dropOfUsed(int n) {
        RequestCutter x = Bench.holding("ab\n");
        x.cut();
        return x.drop(n);
    }

    /** The document does not speak of it; there is no such number of bytes. */
    private static void dropRefusesBelowZero() {
        for (int n : new int[] {-1, -3, Integer.MIN_VALUE + 1, Integer.MIN_VALUE}) {
            dropRefuses(n);
            BENCH.due("drop(" + n + ") of no input", new RequestCutter().drop(n), false);
        }
    }

    private static void dropRefuses(int n) {
        RequestCutter x = Bench.holding("ab\n");
        Bench.lay(x, "on the tape\n");
        BENCH.due("drop(" + n + ") of 3", x.drop(n), false);
        BENCH.due("waiting() after drop(" + n + ")", x.waiting(), 3);
        BENCH.due("arrive() after drop(" + n + ")", x.arrive(), 15);
        BENCH.cutsWords(x, "after drop(" + n + ")", 12, "ab");
    }

    private static void dropLeavesCutAndTape() {
        RequestCutter x = Bench.holding("ab\n*x\r\n");
        BENCH.due("cut()", x.cut(), 1);
        Bench.lay(x, "cd\n");
        BENCH.due("drop(4)", x.drop(4), true);
        BENCH.due("the word after drop", "ab".equals(Bench.word(x, 0)), true);
        BENCH.due("arrive() after drop", x.arrive(), 3);
        BENCH.cutsWords(x, "the tape after drop", 0, "cd");
    }

    // Promise 10: "How many bytes wait."

    private static void waitingCountsTheInputAlone() {
        RequestCutter x = new RequestCutter();
        BENCH.due("waiting() of nothing", x.waiting(), 0);
        Bench.lay(x, "a\nb\n*x\r\n");
        BENCH.due("waiting() with bytes on the tape", x.waiting(), 0);
        x.arrive();
        BENCH.due("waiting() after arrive", x.waiting(), 8);
        BENCH.due("waiting() again", x.waiting(), 8);
        x.cut();
        BENCH.due("waiting() after a cut", x.waiting(), 6);
        x.drop(2);
        BENCH.due("waiting() after a drop", x.waiting(), 4);
        x.drop(5);
        BENCH.due("waiting() after a drop refused", x.waiting(), 4);
        x.cut();
        BENCH.due("waiting() after a fault", x.waiting(), 4);
        x.drop(3);
        BENCH.due("waiting() of one", x.waiting(), 1);
        x.drop(1);
        BENCH.due("waiting() of nothing left", x.waiting(), 0);
    }
}
