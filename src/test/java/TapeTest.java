/** Promises 1 to 4, 9 and 10: a new object, the tape, and the input's length. */
public final class TapeTest {
    private static final Bench BENCH = new Bench();

    public static void main(String[] args) {
        newObject();
        feedOrder();
        feedLimit();
        endKeepsTheFirst();
        endRefuses();
        arriveEmptiesTheTape();
        arriveLimit();
        dropTakesTheFirst();
        dropRefuses();
        dropLeavesTheWords();
        BENCH.close();
    }

    private static void newObject() {
        RequestCutter x = new RequestCutter();
        BENCH.due("new: waiting()", x.waiting(), 0);
        BENCH.due("new: fault()", x.fault(), 0);
        BENCH.hasNoWord(x, "new", 0);
        BENCH.due("new: end(1)", x.end(1), false);
        BENCH.due("new: end(0)", x.end(0), true);
        BENCH.due("new: drop(1)", x.drop(1), false);
        BENCH.due("new: drop(0)", x.drop(0), true);
        BENCH.due("new: arrive()", x.arrive(), 0);
        BENCH.cutsNothing(x, "new");
    }

    private static void feedOrder() {
        RequestCutter x = new RequestCutter();
        BENCH.due("feed", x.feed(0x01020304, 0x05060708, 0x09410b0c, 0xfffefdfc, 0x80818283), true);
        BENCH.due("feed waits on the tape", x.waiting(), 0);
        BENCH.due("feed", x.feed(0x7f7e7d7c, 0x00000000, 0x30313233, 0x34353637, 0x38390d0a), true);
        BENCH.due("arrive()", x.arrive(), 40);
        BENCH.due("cut()", x.cut(), 1);
        int[] want = {1, 2, 3, 4, 5, 6, 7, 8, 9, 65, 11, 12, 255, 254, 253, 252, 128, 129, 130, 131,
            127, 126, 125, 124, 0, 0, 0, 0, 48, 49, 50, 51, 52, 53, 54, 55, 56, 57};
        BENCH.due("size(0)", x.size(0), want.length);
        for (int i = 0; i < want.length; i++) {
            BENCH.due("byteOf(0, " + i + ")", x.byteOf(0, i), want[i]);
        }
    }

    /** Its last calls are beyond the 512 that the document speaks of: the limit holds there too. */
    private static void feedLimit() {
        RequestCutter x = new RequestCutter();
        for (int i = 0; i < 512; i++) {
            BENCH.due("feed number " + i, x.feed(i, i, i, i, i), true);
        }
        BENCH.due("feed onto 10240", x.feed(1, 1, 1, 1, 1), false);
        BENCH.due("end(10241)", x.end(10241), false);
        BENCH.due("end(10240)", x.end(10240), true);
        BENCH.due("end(10221)", x.end(10221), true);
        BENCH.due("feed onto 10221", x.feed(1, 1, 1, 1, 1), false);
        BENCH.due("end(10222) after a feed refused", x.end(10222), false);
        BENCH.due("end(10220)", x.end(10220), true);
        BENCH.due("feed onto 10220", x.feed(1, 1, 1, 1, 1), true);
        BENCH.due("arrive()", x.arrive(), 10240);
    }

    private static void endKeepsTheFirst() {
        RequestCutter x = new RequestCutter();
        Bench.lay(x, "abcdefghijklmnopqrstuvwxyz");
        BENCH.due("end(3)", x.end(3), true);
        BENCH.due("end(4) after end(3)", x.end(4), false);
        x.feed(0x58595a0a, 0, 0, 0, 0);
        BENCH.due("arrive()", x.arrive(), 23);
        BENCH.cutsWords(x, "end, then feed", 16, "abcXYZ");
        BENCH.due("drop(16)", x.drop(16), true);
        Bench.lay(x, "gone\n");
        BENCH.due("end(0)", x.end(0), true);
        BENCH.due("arrive() of nothing", x.arrive(), 0);
    }

    private static void endRefuses() {
        RequestCutter x = new RequestCutter();
        Bench.lay(x, "0123456789abcdefgh\n!");
        int[] wrong = {21, -1, Integer.MIN_VALUE, Integer.MAX_VALUE};
        for (int n : wrong) {
            BENCH.due("end(" + n + ")", x.end(n), false);
        }
        BENCH.due("end(20)", x.end(20), true);
        BENCH.due("arrive()", x.arrive(), 20);
        BENCH.cutsWords(x, "end refused", 1, "0123456789abcdefgh");
    }

    private static void arriveEmptiesTheTape() {
        RequestCutter x = Bench.holding("one ");
        BENCH.due("end(1) after arrive", x.end(1), false);
        BENCH.due("arrive() again", x.arrive(), 4);
        BENCH.due("arrive() of more", Bench.send(x, "two\nthree"), 13);
        BENCH.due("waiting()", x.waiting(), 13);
        BENCH.cutsWords(x, "in two pieces", 5, "one", "two");
        BENCH.due("arrive() behind what is left", Bench.send(x, "\n"), 6);
        BENCH.cutsWords(x, "left and more", 0, "three");
    }

    /** Beyond the 512 calls that the document speaks of: the limit holds there too. */
    private static void arriveLimit() {
        RequestCutter x = new RequestCutter();
        for (int i = 1; i <= 6; i++) {
            BENCH.due("arrive()", Bench.send(x, "y".repeat(10240)), 10240 * i);
        }
        BENCH.due("arrive() of one too many", Bench.send(x, "n".repeat(4097)), RequestCutter.NONE);
        BENCH.due("end(1) after a loss", x.end(1), false);
        BENCH.due("waiting() after a loss", x.waiting(), 61440);
        BENCH.due("arrive() up to the limit", Bench.send(x, "z".repeat(4096)), 65536);
        BENCH.due("arrive() of nothing", x.arrive(), 65536);
        BENCH.due("arrive() of one more", Bench.send(x, "n"), RequestCutter.NONE);
        BENCH.due("drop(65537)", x.drop(65537), false);
        BENCH.due("drop(61439)", x.drop(61439), true);
        BENCH.due("arrive()", Bench.send(x, "\n"), 4098);
        BENCH.due("drop(2049)", x.drop(2049), true);
        BENCH.cutsFault(x, "2048 and LF", 5);
        BENCH.due("drop(1)", x.drop(1), true);
        BENCH.cutsWords(x, "2047 and LF", 0, "z".repeat(2047));
    }

    private static void dropTakesTheFirst() {
        RequestCutter x = Bench.holding("abcdef\nxyz\n");
        BENCH.due("drop(0)", x.drop(0), true);
        BENCH.due("waiting()", x.waiting(), 11);
        BENCH.due("drop(2)", x.drop(2), true);
        BENCH.due("waiting()", x.waiting(), 9);
        BENCH.cutsWords(x, "dropped 2", 4, "cdef");
        BENCH.due("drop(4)", x.drop(4), true);
        BENCH.due("waiting()", x.waiting(), 0);
        BENCH.due("drop(1)", x.drop(1), false);
    }

    private static void dropRefuses() {
        RequestCutter x = Bench.holding("abc\n");
        int[] wrong = {5, Integer.MAX_VALUE, -1, Integer.MIN_VALUE};
        for (int n : wrong) {
            BENCH.due("drop(" + n + ")", x.drop(n), false);
            BENCH.due("waiting()", x.waiting(), 4);
        }
        Bench.lay(x, "tape");
        BENCH.due("drop(5), a byte of it on the tape", x.drop(5), false);
        BENCH.cutsWords(x, "drop refused", 0, "abc");
        BENCH.due("arrive() after drop", x.arrive(), 4);
    }

    private static void dropLeavesTheWords() {
        RequestCutter x = Bench.holding("one two\n*1\r\n$-1\r\n");
        BENCH.due("cut()", x.cut(), 2);
        BENCH.due("drop(3)", x.drop(3), true);
        Bench.send(x, "other bytes that come\n");
        BENCH.due("word 1 stays", "two".equals(Bench.word(x, 1)), true);
        BENCH.due("word 0 stays", "one".equals(Bench.word(x, 0)), true);
    }
}
