/** The sentences under "Terms" on TO APPEND. */
public final class AppendSentencesTest {
    private final Sentences s = new Sentences("AppendSentencesTest");

    public static void main(String[] args) {
        AppendSentencesTest t = new AppendSentencesTest();
        t.head();
        t.record();
        t.s.end();
    }

    private void head() {
        s.test("when there is no head or all its pages are written", this::noHead, this::headWithOnePageLeft,
            this::headWithOnePageLeftAndNoFreeBlock);
        s.test("if two or more blocks are free, the head becomes the lowest of them", this::threeBlocksFree,
            this::twoBlocksFree, this::lowestOfTwo);
        s.test("otherwise there is a CLEANING", this::oneBlockFree, this::oneBlockFreeAndNoHead);
        s.test("and when that can't be, the answer is FULL and nothing happens.", this::fullWithAHead,
            this::fullWithNoHead, this::fullKeepsTheArming);
    }

    private void record() {
        s.test("Then the lowest page of the head that is not written is written", this::pagesInTurn, this::holes,
            this::behindTheCopies);
        s.test("with SEQ NEXT, the key, value and kind, CHECK and PARITY as made", this::wordsOfRecords,
            this::allBitsAreWritten);
        s.test("NEXT grows by 1.", this::nextGrows, this::nextStays);
    }

    private void noHead() {
        Probe x = new Probe(3, 2);
        s.due("head", x.head(), -1);
        s.due("put", x.put(1, 1), 0);
        s.due("head", x.head(), 0);
    }

    private void headWithOnePageLeft() {
        for (int pages = 2; pages <= 4; pages++) {
            Probe x = new Probe(4, pages);
            for (int i = 0; i < pages; i++) {
                x.puts(1);
                s.due("put " + i + ": the head stays", x.head(), 0);
            }
            x.puts(1);
            s.due("all " + pages + " pages are written", x.head(), 1);
        }
        Probe y = Probe.with(3, 2, 1, 1, 1);
        s.due("one block is free, block 0 has nothing needed", y.needed(0), 0);
        y.puts(1);
        s.due("the page that is left is taken without a cleaning", y.acts(), 4);
        s.due("head", y.head(), 1);
    }

    private void headWithOnePageLeftAndNoFreeBlock() {
        Probe x = Probe.with(3, 2, 0, 1, 2, 3);
        x.onto(4, Forge.record(-1, 4, -1, 1));
        s.due("mount", x.mount(), 5);
        s.due("put on the page that is left", x.put(5, 5), 0);
        s.due("head", x.head(), 2);
        s.due("then it is full", x.put(5, 5), Probe.FULL);
    }

    private void threeBlocksFree() {
        Probe x = Probe.with(5, 2, 1, 2);
        x.puts(1);
        s.due("of four", x.head(), 1);
        x.puts(2, 1);
        s.due("of three", x.head(), 2);
        s.due("no cleaning, though block 0 has nothing needed", x.acts(), 5);
    }

    private void twoBlocksFree() {
        Probe x = Probe.with(4, 2, 1, 1, 1, 1);
        s.due("block 0 has nothing needed", x.needed(0), 0);
        x.puts(1);
        s.due("head", x.head(), 2);
        s.due("no cleaning", x.acts(), 5);
        s.dueWords("block 0 was not erased", x, 0, Forge.record(1, 1, 101, 1));
    }

    private void lowestOfTwo() {
        Probe x = Probe.with(3, 2, 1, 2, 3, 4);
        x.erase(0, 1);
        s.due("mount with blocks 0 and 2 free", x.mount(), 2);
        s.due("no head", x.head(), -1);
        x.puts(5);
        s.due("head", x.head(), 0);
        s.due("no cleaning", x.acts(), 5);
        s.dueWords("the record", x, 0, Forge.record(5, 5, 105, 1));
    }

    private void oneBlockFree() {
        Probe x = Probe.with(4, 2, 1, 1, 1, 1, 1, 1);
        x.puts(2);
        s.due("an erasing and a writing", x.acts(), 8);
        s.dueWords("block 0 was erased", x, 0, Forge.erased());
        s.due("head", x.head(), 3);
        x.puts(2, 2);
        s.due("the block that was erased is the one that is free", x.head(), 0);
        s.dueWords("block 1 was erased for it", x, 2, Forge.erased());
    }

    private void oneBlockFreeAndNoHead() {
        Probe x = Probe.with(3, 2, 0, 1, 1, 2);
        s.due("mount", x.mount(), 3);
        s.due("no head", x.head(), -1);
        s.due("put", x.put(3, 103), 0);
        s.due("a copy, an erasing and a writing", x.acts(), 7);
        s.due("head", x.head(), 2);
        s.dueWords("the copy", x, 4, Forge.record(1, 0, 100, 1));
        s.dueWords("the record", x, 5, Forge.record(5, 3, 103, 1));
        s.dueWords("block 0 was erased", x, 0, Forge.erased());
    }

    /** Asks the three calls that want to append; each finds no room. */
    private void dueFull(Probe x) {
        int[] before = x.all();
        s.due("put of a key that is held", x.put(0, 1), Probe.FULL);
        s.due("put of a key that is not", x.put(15, 1), Probe.FULL);
        s.due("remove", x.remove(0), Probe.FULL);
        s.dueRow("all that can be seen", x.all(), before);
    }

    private void fullWithAHead() {
        for (int pages = 2; pages <= 4; pages++) {
            Probe x = new Probe(3, pages);
            for (int key = 0; key < 2 * pages; key++) {
                x.puts(key);
            }
            s.due("head", x.head(), 1);
            dueFull(x);
        }
    }

    private void fullWithNoHead() {
        Probe x = Probe.with(3, 2, 0, 1, 2, 3);
        x.mount();
        s.due("head", x.head(), -1);
        dueFull(x);
    }

    private void fullKeepsTheArming() {
        Probe x = Probe.with(3, 2, 0, 1, 2, 3);
        x.arm(0);
        s.due("put", x.put(0, 1), Probe.FULL);
        s.due("remove", x.remove(0), Probe.FULL);
        s.due("not crashed", x.crashed(), false);
        x.turn(0, 3);
        s.due("but still armed", x.scrub(), Probe.CRASHED);
    }

    private void pagesInTurn() {
        Probe x = new Probe(3, 4);
        for (int i = 0; i < 8; i++) {
            x.puts(i);
            s.dueWords("put " + i, x, i, Forge.record(i + 1, i, 100 + i, 1));
            s.dueWords("the page behind", x, i + 1, Forge.erased());
        }
    }

    private void holes() {
        Probe x = Probe.with(3, 4, 1, 2, 3);
        x.erase(1);
        s.due("mount", x.mount(), 2);
        x.puts(4);
        s.dueWords("the hole", x, 1, Forge.record(4, 4, 104, 1));
        s.dueWords("not the page behind all", x, 3, Forge.erased());
        x.puts(5);
        s.dueWords("then that", x, 3, Forge.record(5, 5, 105, 1));
        s.due("head", x.head(), 0);
        x.puts(6);
        s.due("then the next block", x.head(), 1);
        Probe y = Probe.with(3, 2, 1, 2);
        y.erase(0);
        y.mount();
        y.puts(3);
        s.dueWords("the first page", y, 0, Forge.record(3, 3, 103, 1));
    }

    private void behindTheCopies() {
        Probe x = Probe.with(3, 4, 0, 1, 2, 3, 4, 5, 6, 0);
        x.puts(7);
        for (int i = 0; i < 3; i++) {
            s.dueWords("the copies", x, 8 + i, Forge.record(2 + i, 1 + i, 101 + i, 1));
        }
        s.dueWords("the record on the one page that is left", x, 11, Forge.record(9, 7, 107, 1));
    }

    private void wordsOfRecords() {
        int[] values = {0, 1, -1, Integer.MAX_VALUE, Integer.MIN_VALUE, 0x0F0F0F0F};
        for (int key = 0; key < 16; key += 5) {
            for (int value : values) {
                Probe x = new Probe(3, 2);
                s.due("put(" + key + ", " + value + ")", x.put(key, value), 0);
                s.dueWords("put(" + key + ", " + value + ")", x, 0, Forge.record(1, key, value, 1));
                s.due("get(" + key + ")", x.get(key), value);
                s.due("remove(" + key + ")", x.remove(key), 0);
                s.dueWords("remove(" + key + ")", x, 1, Forge.record(2, key, 0, 2));
            }
        }
    }

    /** The page was not written, but its bits are not those of an erased one. */
    private void allBitsAreWritten() {
        for (int i = 0; i < Forge.PAGE_BITS; i++) {
            Probe x = new Probe(3, 2);
            x.turn(0, i);
            x.puts(3);
            s.dueWords("bit " + i + " was 0", x, 0, Forge.record(1, 3, 103, 1));
        }
        Probe y = new Probe(3, 2);
        y.onto(0, new int[6]);
        y.puts(3);
        s.dueWords("all bits were 0", y, 0, Forge.record(1, 3, 103, 1));
    }

    private void nextGrows() {
        Probe x = Probe.with(3, 4, 1, 2);
        x.remove(1);
        x.puts(1);
        for (int p = 0; p < 4; p++) {
            s.due("SEQ of page " + p, x.word(p, 0), p + 1);
        }
        Probe y = Probe.with(3, 2, 0, 1, 1, 2);
        y.puts(3);
        s.due("a copy keeps its SEQ", y.word(4, 0), 1);
        s.due("and NEXT grows by no copy", y.word(5, 0), 5);
    }

    private void nextStays() {
        Probe x = Probe.with(3, 4, 1);
        x.put(16, 1);
        x.remove(-1);
        x.remove(9);
        x.get(1);
        x.scrub();
        x.puts(1);
        s.due("refused calls do not make it grow", x.word(1, 0), 2);
        x.arm(0);
        x.put(1, 1);
        x.mount();
        x.puts(1);
        s.due("nor does a record that was not written", x.word(2, 0), 3);
    }
}
