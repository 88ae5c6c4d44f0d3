/** What a cleaning chooses, what it copies and how, and when it can't be: for promises 3, 4, 5, 15, 16 and 17. */
public final class CleaningTest {
    private static final int FULL = -1;
    private static final int CRASHED = -2;
    private static final int ROTTEN = 3;

    private final Checks checks = new Checks("CleaningTest");

    public static void main(String[] args) {
        CleaningTest test = new CleaningTest();
        test.leastNeededIsChosen();
        test.lowestOfSeveralIsChosen();
        test.fullHeadMayBeChosen();
        test.mendedPageIsCopiedAsRead();
        test.badPageIsCopiedAsItIs();
        test.falselyMendedPageIsCopiedAsItIs();
        test.blankPageIsCopiedAsItIs();
        test.removalIsCopied();
        test.removalAloneIsDropped();
        test.copiesGoBeforeTheirOriginals();
        test.rottenFreeBlockIsWritten();
        test.onePageShortOfFull();
        test.checks.end();
    }

    private void dueWords(String what, BitRotStore x, int p, int[] words) {
        for (int k = 0; k < Forge.WORDS; k++) {
            checks.due(what + ": word(" + p + ", " + k + ")", x.word(p, k), words[k]);
        }
    }

    private static void putAll(BitRotStore x, int... keys) {
        for (int key : keys) {
            x.put(key, 100 + key);
        }
    }

    private void leastNeededIsChosen() {
        BitRotStore x = new BitRotStore(4, 3);
        putAll(x, 0, 1, 2, 3, 4, 5, 0, 3, 4);
        checks.due("needed(0)", x.needed(0), 2);
        checks.due("needed(1)", x.needed(1), 1);
        checks.due("needed(2)", x.needed(2), 3);
        putAll(x, 6);
        checks.due("a copy, an erasing and a writing", x.acts(), 12);
        dueWords("block 1 is erased", x, 3, Forge.erased());
        dueWords("its needed page is copied", x, 9, Forge.record(6, 5, 105, 1));
        dueWords("then comes the new record, with the next SEQ", x, 10, Forge.record(10, 6, 106, 1));
        checks.due("head", x.head(), 3);
    }

    private void lowestOfSeveralIsChosen() {
        BitRotStore x = new BitRotStore(4, 2);
        putAll(x, 0, 1, 2, 3, 1, 3);
        checks.due("needed(0)", x.needed(0), 1);
        checks.due("needed(1)", x.needed(1), 1);
        putAll(x, 4);
        dueWords("block 0 is erased", x, 0, Forge.erased());
        dueWords("block 1 stays", x, 2, Forge.record(3, 2, 102, 1));
        dueWords("the copy", x, 6, Forge.record(1, 0, 100, 1));
    }

    private void fullHeadMayBeChosen() {
        BitRotStore x = new BitRotStore(3, 2);
        putAll(x, 0, 1, 2, 2);
        checks.due("the full head has the least", x.needed(1), 1);
        putAll(x, 3);
        dueWords("the old head is erased", x, 2, Forge.erased());
        dueWords("its needed page is copied", x, 4, Forge.record(4, 2, 102, 1));
        checks.due("the new head", x.head(), 2);
        checks.due("size", x.size(), 4);
    }

    /** Block 0 has one needed page, that of key 0, on page 0. */
    private static BitRotStore beforeCleaning() {
        BitRotStore x = new BitRotStore(3, 2);
        putAll(x, 0, 1, 1, 2);
        return x;
    }

    private void mendedPageIsCopiedAsRead() {
        BitRotStore x = beforeCleaning();
        x.rot(0, 3);
        x.rot(0, 165);
        putAll(x, 3);
        dueWords("the copy is sound", x, 4, Forge.record(1, 0, 100, 1));
        checks.due("get", x.get(0), 100);
    }

    private void badPageIsCopiedAsItIs() {
        BitRotStore x = beforeCleaning();
        x.rot(0, 3);
        x.rot(0, 35);
        x.rot(0, 100);
        int[] rotten = Forge.wordsOf(x, 0);
        checks.due("condition", x.condition(0), ROTTEN);
        putAll(x, 3);
        dueWords("the copy", x, 4, rotten);
        checks.due("the key is still known", x.has(0), true);
        checks.due("but its value is not", x.get(0), 0);
        checks.due("needed", x.needed(2), 2);
        checks.due("the bits may turn back", x.rot(4, 100), true);
        checks.due("and then it is read", x.get(0), 100);
    }

    /** Two bits turned round make its PARITY right, but then KIND is 3: nothing of this may be copied. */
    private void falselyMendedPageIsCopiedAsItIs() {
        BitRotStore x = beforeCleaning();
        int[] words = Forge.turned(Forge.record(1, 0, 100, 3), 5, 66);
        Forge.onto(x, 0, words);
        checks.due("condition", x.condition(0), ROTTEN);
        putAll(x, 3);
        dueWords("the copy", x, 4, words);
        checks.due("KIND is known as before", x.has(0), true);
    }

    private void blankPageIsCopiedAsItIs() {
        BitRotStore x = beforeCleaning();
        int[] words = Forge.turned(Forge.erased(), 7, 170);
        Forge.onto(x, 0, words);
        putAll(x, 3);
        dueWords("the copy", x, 4, words);
        checks.due("the page of the copy is written: the record lies behind it", x.word(5, 1), 3);
        checks.due("the key is still known", x.has(0), true);
        checks.due("get", x.get(0), 0);
    }

    private void removalIsCopied() {
        BitRotStore x = new BitRotStore(4, 3);
        putAll(x, 9, 0, 8);
        x.remove(0);
        putAll(x, 1, 1, 1, 2, 3);
        checks.due("block 0 has the old value of key 0 and two needed pages", x.needed(0), 2);
        checks.due("block 1 has the removal alone", x.needed(1), 1);
        putAll(x, 4);
        dueWords("the copy", x, 9, Forge.record(4, 0, 0, 2));
        checks.due("the removal is needed while block 0 has its key", x.needed(3), 2);
        checks.due("has(0)", x.has(0), false);
        checks.due("mount", x.mount(), 6);
        checks.due("has(0) after mounting", x.has(0), false);
    }

    private void removalAloneIsDropped() {
        BitRotStore x = new BitRotStore(3, 2);
        Forge.onto(x, 0, Forge.record(1, 0, 0, 2));
        x.mount();
        putAll(x, 1, 1, 2);
        checks.due("needed(0)", x.needed(0), 0);
        putAll(x, 3, 4);
        checks.due("block 0 is erased without a copy", x.acts(), 6);
        dueWords("erased", x, 0, Forge.erased());
    }

    private void copiesGoBeforeTheirOriginals() {
        BitRotStore x = beforeCleaning();
        x.arm(1);
        checks.due("the power fails before the erasing", x.put(3, 103), CRASHED);
        dueWords("the original", x, 0, Forge.record(1, 0, 100, 1));
        dueWords("the copy", x, 4, Forge.record(1, 0, 100, 1));
        checks.due("mount", x.mount(), 3);
        checks.due("the copy in the head is needed, so the original is erased", x.acts(), 6);
        checks.due("needed(0)", x.needed(0), 0);
        checks.due("get", x.get(0), 100);
        checks.due("the head has room", x.put(3, 103), 0);
        checks.due("SEQ goes on", x.word(5, 0), 5);
    }

    private void rottenFreeBlockIsWritten() {
        BitRotStore x = beforeCleaning();
        for (int i = 0; i < 20; i++) {
            x.rot(4, i);
            x.rot(5, i * 8);
        }
        checks.due("a block is free whatever its bits are", x.put(3, 103), 0);
        dueWords("the copy", x, 4, Forge.record(1, 0, 100, 1));
        dueWords("the record", x, 5, Forge.record(5, 3, 103, 1));
    }

    private void onePageShortOfFull() {
        BitRotStore x = new BitRotStore(5, 4);
        putAll(x, 0, 1, 2, 3, 4, 5, 6, 7, 8, 9, 10, 11, 12, 13, 14, 0);
        checks.due("one page of block 0 is not needed", x.needed(0), 3);
        checks.due("three copies make room for one record", x.put(15, 115), 0);
        checks.due("acts", x.acts(), 21);
        checks.due("all keys", x.size(), 16);
        checks.due("then nothing can be cleaned", x.put(3, 1), FULL);
        checks.due("and nothing be removed", x.remove(3), FULL);
        for (int key = 0; key < 16; key++) {
            checks.due("get(" + key + ")", x.get(key), 100 + key);
        }
        checks.due("mount", x.mount(), 16);
        checks.due("no head", x.head(), -1);
        checks.due("still full", x.put(3, 1), FULL);
        checks.due("no head after FULL", x.head(), -1);
    }
}
