/** The sentences under "Terms" on A CLEANING. */
public final class CleaningSentencesTest {
    private final Sentences s = new Sentences("CleaningSentencesTest");

    public static void main(String[] args) {
        CleaningSentencesTest t = new CleaningSentencesTest();
        t.choice();
        t.refusals();
        t.copying();
        t.s.end();
    }

    private void choice() {
        s.test("of the blocks that are not free", this::freeIsNotChosen);
        s.test("and not the head", this::openHeadIsNotChosen);
        s.test("(unless all the head's pages are written)", this::fullHeadIsChosen);
        s.test("that with the least number of needed pages is chosen", this::leastIsChosen);
        s.test("of several the lowest.", this::lowestIsChosen);
    }

    private void refusals() {
        s.test("The cleaning can't be (and nothing happens) when there is no such block", this::noBlockToChoose);
        s.test("when all P of its pages are needed", this::allNeeded, this::allButOneNeeded);
        s.test("when there is no head or all its pages are written and no block is free", this::noHeadNoFree,
            this::fullHeadNoFree);
        s.test("or when the head has pages that are not written, but fewer than the chosen block has needed ones.",
            this::headTooSmall, this::headJustLargeEnough, this::headLargerThanThat);
    }

    private void copying() {
        s.test("Otherwise, when there is no head or all its pages are written, the head becomes the lowest free block",
            this::headMoves, this::openHeadStays);
        s.test("the pages of the chosen block that are needed (as things stand when it is chosen)",
            this::neededBeforeTheHeadMoves, this::notNeededBeforeTheHeadMoves);
        s.test("are copied in order, each to the lowest page of the head that is not written", this::copiedInOrder,
            this::copiedIntoHoles, this::nothingToCopy);
        s.test("(as read when it is sound or mended", this::copiedAsRead);
        s.test("otherwise word by word as it is", this::badIsCopiedAsItIs, this::falselyMendedIsCopiedAsItIs,
            this::blankIsCopiedAsItIs);
        s.test("its SEQ, KEY and KIND are known there from then on)", this::knownOfTheKeyThatIsPut,
            this::knownOfABadCopy, this::knownOfABadRemoval, this::knownOfAnotherRecord);
        s.test("and the chosen block is erased (none of its pages is written then).", this::chosenIsErased);
    }

    private void freeIsNotChosen() {
        Probe x = Probe.with(3, 2, 1, 1, 1, 1, 1, 1);
        s.due("block 0 is free, below the others", x.needed(0) + x.needed(1), 0);
        s.dueWords("it was cleaned before", x, 0, Forge.erased());
        x.puts(1);
        s.dueWords("block 1 is erased", x, 2, Forge.erased());
        s.dueWords("block 0 has the record", x, 0, Forge.record(7, 1, 101, 1));
        s.due("head", x.head(), 0);
        s.due("acts", x.acts(), 9);
    }

    private void openHeadIsNotChosen() {
        Probe x = Probe.with(3, 2, 0, 1, 2, 1);
        x.onto(4, Forge.record(-1, 1, -1, 1));
        s.due("mount", x.mount(), 3);
        s.due("the head", x.head(), 2);
        s.due("a copy and an erasing", x.acts(), 6);
        s.dueWords("the head has nothing needed and is not erased", x, 4, Forge.record(-1, 1, -1, 1));
        s.dueWords("it has the copy of block 0", x, 5, Forge.record(1, 0, 100, 1));
        s.dueWords("block 0 is erased", x, 0, Forge.erased());
    }

    private void fullHeadIsChosen() {
        Probe x = Probe.with(3, 2, 0, 1, 2, 2);
        s.due("needed(0)", x.needed(0), 2);
        s.due("the head", x.head(), 1);
        s.due("needed(1)", x.needed(1), 1);
        s.due("put", x.put(3, 103), 0);
        s.dueWords("the head is erased", x, 2, Forge.erased());
        s.dueWords("its needed page is copied", x, 4, Forge.record(4, 2, 102, 1));
        s.dueWords("the record", x, 5, Forge.record(5, 3, 103, 1));
        s.due("the new head", x.head(), 2);
        s.due("size", x.size(), 4);
    }

    private void leastIsChosen() {
        int[][] runs = {
            {0, 1, 2, 3, 4, 5, 0, 1, 3, 0},
            {0, 1, 2, 3, 4, 5, 0, 3, 4, 1},
            {0, 1, 2, 3, 4, 5, 6, 6, 6, 2}};
        for (int[] run : runs) {
            int least = run[9];
            Probe x = new Probe(4, 3);
            for (int i = 0; i < 9; i++) {
                x.puts(run[i]);
            }
            int needed = x.needed(least);
            for (int b = 0; b < 3; b++) {
                s.due("block " + b + " has more than block " + least, b == least || x.needed(b) > needed, true);
            }
            x.puts(7);
            for (int b = 0; b < 3; b++) {
                s.due("block " + b + " is erased", x.condition(b * 3) == Probe.BLANK, b == least);
            }
            s.due("acts", x.acts(), 11 + needed);
        }
    }

    private void lowestIsChosen() {
        int[][] runs = {{0, 1, 2, 3, 1, 3, 0}, {0, 1, 2, 2, 3, 3, 1}, {1, 1, 1, 1, 1, 1, 0}};
        for (int[] run : runs) {
            int lowest = run[6];
            Probe x = new Probe(4, 2);
            for (int i = 0; i < 6; i++) {
                x.puts(run[i]);
            }
            boolean several = false;
            for (int b = lowest + 1; b < 3; b++) {
                several |= x.needed(b) == x.needed(lowest);
            }
            s.due("several have as few as block " + lowest, several, true);
            x.puts(9);
            for (int b = 0; b < 3; b++) {
                s.due("block " + b + " is erased", x.condition(b * 2) == Probe.BLANK, b == lowest);
            }
        }
    }

    /**
     * No call wants a cleaning that finds no block: one is wanted only when fewer than two of at least three
     * blocks are free, and no more than one of the others is a head with room. So what can be seen is that
     * nothing happens where all blocks are free, or all but the head.
     */
    private void noBlockToChoose() {
        Probe x = new Probe(3, 2);
        s.due("mount of free blocks", x.mount(), 0);
        s.due("put", x.put(1, 101), 0);
        s.due("mount of free blocks and the head", x.mount(), 1);
        s.due("one writing and no more", x.acts(), 1);
        s.dueWords("the head is not erased", x, 0, Forge.record(1, 1, 101, 1));
        s.due("head", x.head(), 0);
    }

    private void allNeeded() {
        for (int pages = 2; pages <= 4; pages++) {
            Probe x = new Probe(3, pages);
            for (int key = 0; key < 2 * pages; key++) {
                x.puts(key);
            }
            s.due("needed(0)", x.needed(0), pages);
            s.due("needed(1)", x.needed(1), pages);
            s.due("put", x.put(0, 1), Probe.FULL);
            s.due("acts", x.acts(), 2 * pages);
            s.due("head", x.head(), 1);
        }
        Probe y = Probe.with(3, 2, 0, 1, 2, 3);
        y.onto(4, Forge.record(-1, 4, -1, 1));
        s.due("mount with no free block", y.mount(), 5);
        s.due("nothing happens", y.acts(), 4);
    }

    private void allButOneNeeded() {
        for (int pages = 2; pages <= 4; pages++) {
            Probe x = new Probe(3, pages);
            for (int i = 0; i < 2 * pages; i++) {
                x.puts(i == 2 * pages - 1 ? 0 : i);
            }
            s.due("needed(0)", x.needed(0), pages - 1);
            s.due("put", x.put(15, 1), 0);
            s.due("the copies, an erasing and a writing", x.acts(), 2 * pages + pages - 1 + 2);
            s.due("the record is on the last page", x.word(3 * pages - 1, 1), 15);
        }
    }

    private void noHeadNoFree() {
        Probe x = Probe.with(3, 2, 0, 1, 0, 2);
        x.onto(4, Forge.record(-1, 3, -1, 1));
        x.onto(5, Forge.record(-2, 4, -1, 1));
        s.due("mount", x.mount(), 5);
        s.due("no head", x.head(), -1);
        s.due("a page of block 0 is not needed", x.needed(0), 1);
        s.due("nothing happens at mounting", x.acts(), 4);
        int[] before = x.all();
        s.due("put", x.put(5, 5), Probe.FULL);
        s.due("remove", x.remove(1), Probe.FULL);
        s.dueRow("nothing happens", x.all(), before);
    }

    /** Block 0 has two needed pages of three, block 1 three, and none is free. */
    private static Probe noneFree(int writtenInHead) {
        Probe x = Probe.with(3, 3, 0, 1, 2, 0, 3, 4);
        for (int i = 0; i < writtenInHead; i++) {
            x.onto(6 + i, Forge.record(-1 - i, 5 + i, -1, 1));
        }
        return x;
    }

    private void fullHeadNoFree() {
        Probe x = noneFree(2);
        x.mount();
        s.due("the last page of the head", x.put(7, 7), 0);
        s.due("the head", x.head(), 2);
        s.due("a page of block 0 is not needed", x.needed(0), 2);
        s.due("put", x.put(8, 8), Probe.FULL);
        s.due("remove", x.remove(1), Probe.FULL);
        s.due("nothing happens", x.acts(), 7);
        s.due("the head", x.head(), 2);
    }

    private void headTooSmall() {
        Probe x = noneFree(2);
        int[] page = x.words(1);
        s.due("mount", x.mount(), 7);
        s.due("nothing happens", x.acts(), 6);
        s.due("the head", x.head(), 2);
        s.dueWords("no copy", x, 8, Forge.erased());
        s.dueWords("no erasing", x, 1, page);
        s.due("needed(0)", x.needed(0), 2);
    }

    private void headJustLargeEnough() {
        Probe x = noneFree(1);
        s.due("mount", x.mount(), 6);
        s.due("two copies and an erasing", x.acts(), 9);
        s.dueWords("the first", x, 7, Forge.record(2, 1, 101, 1));
        s.dueWords("the second", x, 8, Forge.record(3, 2, 102, 1));
        s.dueWords("erased", x, 0, Forge.erased());
        s.due("the head", x.head(), 2);
    }

    private void headLargerThanThat() {
        Probe x = Probe.with(3, 3, 0, 1, 2, 0, 1, 3);
        x.onto(6, Forge.record(-1, 5, -1, 1));
        s.due("mount", x.mount(), 5);
        s.due("a copy and an erasing", x.acts(), 8);
        s.dueWords("the copy", x, 7, Forge.record(3, 2, 102, 1));
        s.dueWords("the page that is left", x, 8, Forge.erased());
    }

    private void headMoves() {
        Probe x = Probe.with(3, 2, 1, 1, 1, 2);
        s.due("a full head", x.head(), 1);
        x.puts(3);
        s.due("the free block", x.head(), 2);
        Probe y = Probe.with(3, 2, 1, 1, 1, 2);
        y.mount();
        s.due("no head", y.head(), -1);
        y.puts(3);
        s.due("the free block", y.head(), 2);
        Probe z = Probe.with(3, 2, 1, 1, 1, 1, 1, 1);
        z.mount();
        s.due("no head", z.head(), -1);
        z.puts(2);
        s.due("the free block below the others", z.head(), 0);
    }

    private void openHeadStays() {
        Probe x = Probe.with(3, 2, 0, 1, 1, 2);
        x.arm(1);
        s.due("the power fails after the copy", x.put(3, 103), Probe.CRASHED);
        s.due("mount", x.mount(), 3);
        s.due("block 0 is erased", x.acts(), 6);
        s.due("the head is the block of the copy, though block 0 is free", x.head(), 2);
        x.puts(3);
        s.due("and takes the record", x.word(5, 1), 3);
    }

    /** Key 0 lies with the same SEQ in block 0 and in the head, block 1; in the head it is needed. */
    private void neededBeforeTheHeadMoves() {
        Probe x = Probe.with(3, 4, 0, 1, 2, 3);
        x.put(0, 200);
        x.puts(1, 2);
        x.onto(4, Forge.record(1, 0, 200, 1));
        x.onto(5, Forge.record(1, 1, 101, 1));
        x.onto(6, Forge.record(1, 2, 102, 1));
        s.due("mount", x.mount(), 4);
        x.puts(4);
        s.due("needed(0)", x.needed(0), 3);
        s.due("needed(1)", x.needed(1), 2);
        s.due("the head is full", x.head(), 1);
        s.due("put", x.put(5, 105), 0);
        s.dueWords("what was needed is copied", x, 8, Forge.record(1, 0, 200, 1));
        s.dueWords("and the next", x, 9, Forge.record(5, 4, 104, 1));
        s.dueWords("and the record", x, 10, Forge.record(6, 5, 105, 1));
        s.dueWords("block 1 is erased", x, 4, Forge.erased());
        s.due("acts", x.acts(), 12);
        s.due("get", x.get(0), 200);
    }

    private void notNeededBeforeTheHeadMoves() {
        Probe x = Probe.with(3, 2, 1, 2);
        x.put(1, 30);
        x.onto(2, Forge.record(1, 1, 30, 1));
        x.mount();
        x.puts(2);
        s.due("needed(0)", x.needed(0), 0);
        s.due("put", x.put(3, 103), 0);
        s.due("an erasing and a writing", x.acts(), 6);
        s.dueWords("no copy", x, 4, Forge.record(4, 3, 103, 1));
        s.due("get", x.get(1), 30);
    }

    private void copiedInOrder() {
        Probe x = Probe.with(3, 4, 5, 1, 4, 3, 1, 8, 7, 6);
        s.due("needed(0)", x.needed(0), 3);
        s.due("put", x.put(9, 109), 0);
        s.dueWords("the first", x, 8, Forge.record(1, 5, 105, 1));
        s.dueWords("the second", x, 9, Forge.record(3, 4, 104, 1));
        s.dueWords("the third", x, 10, Forge.record(4, 3, 103, 1));
        s.dueWords("the record", x, 11, Forge.record(9, 9, 109, 1));
    }

    private void copiedIntoHoles() {
        Probe x = Probe.with(3, 4, 0, 1, 2, 3, 4, 5, 6, 7);
        x.onto(9, Forge.record(-1, 0, -1, 1));
        x.onto(8, Forge.record(20, 1, -1, 1));
        x.onto(0, Forge.record(-2, 0, 100, 1));
        s.due("mount", x.mount(), 8);
        s.due("two copies and an erasing", x.acts(), 11);
        s.dueWords("the first", x, 10, Forge.record(3, 2, 102, 1));
        s.dueWords("the second", x, 11, Forge.record(4, 3, 103, 1));
        Probe y = Probe.with(3, 3, 0, 1, 2, 3, 1, 4);
        y.onto(7, Forge.record(20, 3, -1, 1));
        s.due("mount with a page between two that are not written", y.mount(), 5);
        s.due("two copies and an erasing", y.acts(), 9);
        s.dueWords("before it", y, 6, Forge.record(1, 0, 100, 1));
        s.dueWords("it", y, 7, Forge.record(20, 3, -1, 1));
        s.dueWords("behind it", y, 8, Forge.record(3, 2, 102, 1));
    }

    private void nothingToCopy() {
        Probe x = Probe.with(3, 2, 1, 2, 1, 2);
        s.due("needed(0)", x.needed(0), 0);
        x.puts(3);
        s.due("an erasing and a writing", x.acts(), 6);
        s.dueWords("the record is on the first page", x, 4, Forge.record(5, 3, 103, 1));
    }

    /** Block 0 has one needed page, that of key 0 on page 0; the next put copies it to page 4. */
    private static Probe beforeCleaning() {
        return Probe.with(3, 2, 0, 1, 1, 2);
    }

    private void copiedAsRead() {
        int[][] wrong = {{}, {0}, {31}, {64}, {177}, {3, 165}, {160, 177}, {95, 96}};
        for (int[] bits : wrong) {
            Probe x = beforeCleaning();
            x.turn(0, bits);
            x.puts(3);
            s.dueWords(bits.length + " wrong bits", x, 4, Forge.record(1, 0, 100, 1));
            s.due("get", x.get(0), 100);
        }
    }

    private void dueCopiedAsItIs(int[] words, int condition) {
        Probe x = beforeCleaning();
        x.onto(0, words);
        s.due("condition", x.condition(0), condition);
        s.due("put", x.put(3, 103), 0);
        s.dueWords("the copy", x, 4, words);
        s.due("condition of the copy", x.condition(4), condition);
        s.dueWords("the record behind it", x, 5, Forge.record(5, 3, 103, 1));
        s.due("has", x.has(0), true);
        s.due("get", x.get(0), 0);
    }

    private void badIsCopiedAsItIs() {
        dueCopiedAsItIs(Forge.turned(Forge.record(1, 0, 100, 1), 3, 35, 100), Probe.ROTTEN);
        dueCopiedAsItIs(new int[6], Probe.ROTTEN);
        dueCopiedAsItIs(Forge.record(1, 16, 100, 1), Probe.ROTTEN);
    }

    /** One or two bits turned round make PARITY right, but as read KIND, KEY or CHECK is wrong. */
    private void falselyMendedIsCopiedAsItIs() {
        dueCopiedAsItIs(Forge.turned(Forge.record(1, 0, 100, 3), 5, 66), Probe.ROTTEN);
        dueCopiedAsItIs(Forge.turned(Forge.record(1, 16, 100, 1), 170), Probe.ROTTEN);
        int check = Forge.check(1, 0, 100, 1) ^ 2;
        dueCopiedAsItIs(Forge.turned(Forge.withCheck(1, 0, 100, 1, check), 0, 1), Probe.ROTTEN);
    }

    private void blankIsCopiedAsItIs() {
        dueCopiedAsItIs(Forge.erased(), Probe.BLANK);
        dueCopiedAsItIs(Forge.turned(Forge.erased(), 7), Probe.BLANK);
        dueCopiedAsItIs(Forge.turned(Forge.erased(), 7, 170), Probe.BLANK);
    }

    /** The copy and the record have the same key: the copy keeps its SEQ, so it is the older. */
    private void knownOfTheKeyThatIsPut() {
        Probe x = beforeCleaning();
        s.due("put", x.put(0, 7), 0);
        s.dueWords("the copy", x, 4, Forge.record(1, 0, 100, 1));
        s.dueWords("the record", x, 5, Forge.record(5, 0, 7, 1));
        s.due("get", x.get(0), 7);
        s.due("the copy is not needed", x.needed(2), 1);
        Probe y = beforeCleaning();
        s.due("remove", y.remove(0), 0);
        s.dueWords("the copy", y, 4, Forge.record(1, 0, 100, 1));
        s.due("has", y.has(0), false);
        s.due("the removal is needed", y.needed(2), 1);
    }

    private void knownOfABadCopy() {
        Probe x = beforeCleaning();
        x.spoil(0);
        x.puts(3);
        s.due("has", x.has(0), true);
        s.due("size", x.size(), 4);
        s.due("needed", x.needed(2), 2);
        x.turn(4, 1);
        s.due("the copy is mended when a bit turns back", x.get(0), 100);
    }

    /** The removal of key 0 is bad when it is copied; its older value goes with block 0. */
    private void knownOfABadRemoval() {
        Probe x = Probe.with(3, 3, 0, 1);
        x.remove(0);
        x.puts(1, 2, 3);
        s.due("needed(0)", x.needed(0), 1);
        x.spoil(2);
        int[] words = x.words(2);
        x.puts(4);
        s.dueWords("the copy", x, 6, words);
        s.due("not held", x.has(0), false);
        s.due("the copy is alone with its key, so it is not needed", x.needed(2), 1);
        x.put(0, 7);
        s.due("a greater SEQ", x.get(0), 7);
        s.due("needed", x.needed(2), 2);
    }

    /** The bits of page 0 became those of another record: it is copied as read, but known as before. */
    private void knownOfAnotherRecord() {
        Probe x = beforeCleaning();
        x.onto(0, Forge.turned(Forge.record(99, 5, 77, 2), 8));
        x.puts(3);
        s.dueWords("the copy", x, 4, Forge.record(99, 5, 77, 2));
        s.due("KEY and KIND as before", x.has(0), true);
        s.due("not as read", x.has(5), false);
        s.due("needed", x.needed(2), 2);
        s.due("VALUE as read", x.get(0), 77);
        s.due("NEXT as before", x.word(5, 0), 5);
        s.due("size", x.size(), 4);
        s.due("mount finds what is read there", x.mount(), 3);
    }

    private void chosenIsErased() {
        Probe x = Probe.with(3, 4, 0, 1, 2, 3, 0, 1, 2, 4);
        x.spoil(1);
        x.turn(2, 5);
        x.puts(5);
        for (int p = 0; p < 4; p++) {
            s.dueWords("erased", x, p, Forge.erased());
        }
        for (int p = 4; p < 7; p++) {
            s.due("the other block stays", x.condition(p), Probe.SOUND);
        }
        s.due("needed", x.needed(0), 0);
        x.puts(0, 1);
        s.due("head", x.head(), 2);
        x.puts(2);
        s.due("the block is free, and the next head", x.head(), 0);
        s.due("key 3 lies in the copy still", x.get(3), 103);
    }
}
