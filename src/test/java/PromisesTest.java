/** Each promise by its number: ordinary calls, the edges that the document names, and wrong numbers. */
public final class PromisesTest {
    private static final int BLANK = 0;
    private static final int SOUND = 1;
    private static final int MENDED = 2;
    private static final int ROTTEN = 3;
    private static final int CRASHED = -2;
    private static final int FULL = -1;
    private static final int BAD = -3;

    private final Checks checks = new Checks("PromisesTest");

    public static void main(String[] args) {
        PromisesTest test = new PromisesTest();
        test.newObject();
        test.init();
        test.mountFindsTheMap();
        test.mountFindsNext();
        test.mountFindsTheHead();
        test.mountRefusesBadPages();
        test.mountCleans();
        test.put();
        test.remove();
        test.has();
        test.get();
        test.size();
        test.rot();
        test.scrub();
        test.scrubInOrder();
        test.arm();
        test.crashed();
        test.condition();
        test.conditionOfRecords();
        test.word();
        test.needed();
        test.head();
        test.acts();
        test.checks.end();
    }

    private void due(String what, int got, int want) {
        checks.due(what, got, want);
    }

    private void due(String what, boolean got, boolean want) {
        checks.due(what, got, want);
    }

    private void dueWords(String what, BitRotStore x, int p, int[] words) {
        for (int k = 0; k < Forge.WORDS; k++) {
            due(what + ": word(" + p + ", " + k + ")", x.word(p, k), words[k]);
        }
    }

    /** A store of blocks of two pages, none free but the last, with every key 0 .. in its own page. */
    private static BitRotStore filled(int blocks) {
        BitRotStore x = new BitRotStore(blocks, 2);
        for (int i = 0; i < (blocks - 1) * 2; i++) {
            x.put(i, 100 + i);
        }
        return x;
    }

    private void newObject() {
        int[][] sizes = {{3, 2, 3, 2}, {4, 3, 4, 3}, {5, 4, 5, 4}, {2, 1, 3, 2}, {6, 5, 5, 4}, {0, 0, 3, 2},
            {Integer.MIN_VALUE, Integer.MAX_VALUE, 3, 4}, {Integer.MAX_VALUE, Integer.MIN_VALUE, 5, 2}};
        for (int[] s : sizes) {
            String name = "1: new (" + s[0] + ", " + s[1] + ") ";
            BitRotStore x = new BitRotStore(s[0], s[1]);
            due(name + "last page", x.condition(s[2] * s[3] - 1), BLANK);
            due(name + "page behind", x.condition(s[2] * s[3]), BAD);
            due(name + "last block", x.needed(s[2] - 1), 0);
            due(name + "block behind", x.needed(s[2]), BAD);
            due(name + "acts", x.acts(), 0);
            dueAsNew(name, x, s[2] * s[3]);
            for (int i = 0; i <= s[3]; i++) {
                due(name + "put", x.put(i, i), 0);
            }
            due(name + "P pages lie in a block", x.head(), 1);
        }
    }

    private void dueAsNew(String name, BitRotStore x, int pages) {
        for (int p = 0; p < pages; p++) {
            dueWords(name, x, p, Forge.erased());
        }
        due(name + "size", x.size(), 0);
        due(name + "head", x.head(), -1);
        due(name + "crashed", x.crashed(), false);
    }

    private void init() {
        BitRotStore x = new BitRotStore(3, 2);
        x.put(1, 1);
        x.put(2, 2);
        x.put(1, 3);
        x.rot(5, 3);
        x.arm(0);
        x.init();
        dueAsNew("2: init ", x, 6);
        due("2: init is no act, and acts are counted on", x.acts(), 3);
        due("2: acts are not armed", x.put(4, 4), 0);
        dueWords("2: NEXT is 1", x, 0, Forge.record(1, 4, 4, 1));
        due("2: no old page is written", x.needed(0) + x.needed(1) + x.needed(2), 1);
        x.arm(0);
        x.put(5, 5);
        due("2: crashed before", x.crashed(), true);
        x.init();
        dueAsNew("2: init after a crash ", x, 6);
        due("2: put after a crash and init", x.put(5, 5), 0);
        x.rot(0, 1);
        x.rot(0, 2);
        x.rot(0, 3);
        due("2: not ready before", x.mount(), -1);
        x.init();
        dueAsNew("2: init after a bad mount ", x, 6);
        due("2: ready", x.put(5, 5), 0);
    }

    private void mountFindsTheMap() {
        BitRotStore x = new BitRotStore(4, 3);
        due("3: mount of an erased flash", x.mount(), 0);
        due("3: no head", x.head(), -1);
        x.put(1, 10);
        x.put(2, 20);
        x.put(1, 11);
        x.put(3, 30);
        x.remove(2);
        x.rot(2, 70);
        x.rot(2, 170);
        x.rot(9, 0);
        x.rot(9, 1);
        x.arm(0);
        x.put(1, 12);
        due("3: mount after a crash", x.mount(), 2);
        due("3: not crashed", x.crashed(), false);
        due("3: the value of a mended page", x.get(1), 11);
        due("3: a removed key", x.has(2), false);
        due("3: get(3)", x.get(3), 30);
        due("3: a mended page stays as it is", x.condition(2), MENDED);
        due("3: a blank page with two bits 0 is not written", x.head(), 1);
        due("3: acts are not armed", x.put(1, 12), 0);
        dueWords("3: NEXT goes on", x, 5, Forge.record(6, 1, 12, 1));
        x.arm(0);
        due("3: mount does not need acts", x.mount(), 2);
        due("3: mount disarms", x.put(9, 9), 0);
        due("3: SEQ after it", x.word(6, 0), 7);
        lostPage();
    }

    /** A written page whose bits all became 1 is not found at mounting. */
    private void lostPage() {
        BitRotStore x = new BitRotStore(3, 2);
        x.put(1, 10);
        x.put(2, 20);
        Forge.onto(x, 0, Forge.turned(Forge.erased(), 0, 177));
        due("3: a page that became blank is still known", x.has(1), true);
        due("7: get of a page that became blank", x.get(1), 0);
        due("3: mount without it", x.mount(), 1);
        due("3: its key is lost", x.has(1), false);
        due("3: the hole makes the block the head", x.head(), 0);
        x.put(3, 30);
        dueWords("3: the hole is the lowest page that is not written", x, 0, Forge.record(3, 3, 30, 1));
    }

    private void mountFindsNext() {
        int[][] cases = {{Integer.MAX_VALUE, Integer.MIN_VALUE}, {-7, -6}, {-1, 0}, {0, 1}, {41, 42},
            {Integer.MIN_VALUE, Integer.MIN_VALUE + 1}};
        for (int[] c : cases) {
            BitRotStore x = new BitRotStore(3, 2);
            x.put(5, 50);
            Forge.onto(x, 0, Forge.record(c[0], 5, 50, 1));
            due("3: mount with SEQ " + c[0], x.mount(), 1);
            x.put(6, 60);
            dueWords("3: NEXT is one more", x, 1, Forge.record(c[1], 6, 60, 1));
        }
        BitRotStore x = new BitRotStore(3, 2);
        Forge.onto(x, 0, Forge.record(Integer.MAX_VALUE, 5, 50, 1));
        x.mount();
        x.put(5, 51);
        due("4: the wrapped SEQ is not greater", x.get(5), 50);
    }

    private void mountFindsTheHead() {
        BitRotStore x = new BitRotStore(5, 2);
        Forge.onto(x, 3, Forge.record(2, 1, 10, 1));
        Forge.onto(x, 4, Forge.record(3, 2, 20, 1));
        due("3: mount", x.mount(), 2);
        due("3: the lowest block with some pages written", x.head(), 1);
        x.put(3, 30);
        dueWords("3: its lowest page not written", x, 2, Forge.record(4, 3, 30, 1));
        due("3: no block is searched while the head is full", x.head(), 1);
        due("3: mount again", x.mount(), 3);
        due("3: the other block", x.head(), 2);
        x.put(4, 40);
        x.mount();
        due("3: no block has pages written and not", x.head(), -1);
        x.put(5, 50);
        due("3: the lowest free block", x.head(), 0);
    }

    private void mountRefusesBadPages() {
        BitRotStore x = new BitRotStore(3, 2);
        x.put(1, 10);
        x.put(2, 20);
        x.put(3, 30);
        x.arm(0);
        x.put(4, 40);
        x.rot(5, 1);
        x.rot(5, 2);
        x.rot(5, 3);
        due("3: mount with a bad page that was never written", x.mount(), -1);
        due("3: not crashed", x.crashed(), false);
        due("3: not ready: put", x.put(1, 1), CRASHED);
        due("3: not ready: remove", x.remove(1), CRASHED);
        due("3: not ready: size", x.size(), CRASHED);
        due("3: not ready: head", x.head(), CRASHED);
        due("3: not ready: needed", x.needed(0), CRASHED);
        due("3: not ready: scrub", x.scrub(), CRASHED);
        due("3: not ready: has", x.has(1), false);
        due("3: not ready: get", x.get(1), 0);
        due("13: condition is seen all the same", x.condition(5), ROTTEN);
        due("9: rot works all the same", x.rot(5, 1), true);
        due("3: mount when the page is blank again", x.mount(), 3);
        due("3: get", x.get(3), 30);
    }

    private void mountCleans() {
        BitRotStore x = new BitRotStore(3, 2);
        x.put(0, 1);
        x.put(1, 2);
        x.put(0, 3);
        x.put(2, 4);
        x.arm(1);
        due("3: a crash after the first copy", x.put(3, 5), CRASHED);
        due("3: acts so far", x.acts(), 5);
        dueWords("3: the copy", x, 4, Forge.record(2, 1, 2, 1));
        due("3: mount", x.mount(), 3);
        due("3: the head is the block of the copy", x.head(), 2);
        due("3: the old block had nothing needed and was erased", x.acts(), 6);
        dueWords("3: erased", x, 1, Forge.erased());
        due("3: the value of the copy", x.get(1), 2);
        due("3: mount again finds a free block", x.mount(), 3);
        due("3: and cleans nothing", x.acts(), 6);

        mountThatCannotClean();
        mountThatMoves();
    }

    private void mountThatCannotClean() {
        BitRotStore x = filled(3);
        int[] copy = Forge.record(9, 9, 9, 1);
        Forge.onto(x, 4, copy);
        due("3: all blocks have all pages needed", x.mount(), 5);
        due("3: no cleaning", x.acts(), 4);
        due("3: head", x.head(), 2);
        due("4: the head takes one more", x.put(10, 10), 0);
        due("4: then it is full and no block is free", x.put(0, 1), FULL);
        due("3: mount without a head and a free block", x.mount(), 6);
        due("3: nothing was cleaned", x.acts(), 5);
    }

    private void mountThatMoves() {
        BitRotStore x = new BitRotStore(3, 4);
        for (int i = 0; i < 8; i++) {
            x.put(i, 10 + i);
        }
        Forge.onto(x, 8, Forge.record(20, 0, 1, 1));
        Forge.onto(x, 10, Forge.record(21, 2, 2, 1));
        x.rot(1, 40);
        due("3: mount with room for the two needed pages", x.mount(), 8);
        due("3: two copies and an erasing", x.acts(), 11);
        dueWords("3: the mended page is copied as read, into the hole", x, 9, Forge.record(2, 1, 11, 1));
        dueWords("3: the second", x, 11, Forge.record(4, 3, 13, 1));
        due("3: the block is free", x.needed(0), 0);
        due("3: the head is full", x.head(), 2);
        due("4: a head that is full, and one free block: a cleaning can't be", x.put(9, 9), FULL);

        BitRotStore y = new BitRotStore(3, 4);
        for (int i = 0; i < 8; i++) {
            y.put(i, 10 + i);
        }
        Forge.onto(y, 8, Forge.record(20, 0, 1, 1));
        due("3: mount with just enough room", y.mount(), 8);
        due("3: three copies and an erasing", y.acts(), 12);
        BitRotStore z = new BitRotStore(3, 4);
        for (int i = 0; i < 8; i++) {
            z.put(i, 10 + i);
        }
        Forge.onto(z, 8, Forge.record(20, 0, 1, 1));
        Forge.onto(z, 9, Forge.record(21, 9, 1, 1));
        due("3: mount with too little room", z.mount(), 9);
        due("3: nothing moved", z.acts(), 8);
        z.put(10, 1);
        due("4: the head is filled", z.put(11, 1), 0);
        due("4: no block is free for the three needed pages of block 0", z.put(12, 1), FULL);
        due("4: after FULL the head is as it was", z.head(), 2);
    }

    private void put() {
        BitRotStore x = new BitRotStore(3, 3);
        due("4: put", x.put(0, Integer.MIN_VALUE), 0);
        dueWords("4: the record", x, 0, Forge.record(1, 0, Integer.MIN_VALUE, 1));
        due("4: put again", x.put(15, -1), 0);
        dueWords("4: the next record", x, 1, Forge.record(2, 15, -1, 1));
        dueWords("4: the page behind", x, 2, Forge.erased());
        due("4: put of the same", x.put(15, -1), 0);
        due("4: a key may lie twice", x.word(2, 0), 3);
        due("4: get", x.get(0), Integer.MIN_VALUE);
        x.rot(3, 7);
        due("4: put on a page with a wrong bit", x.put(1, 1), 0);
        dueWords("4: all its words are written", x, 3, Forge.record(4, 1, 1, 1));
        int[] wrong = {-1, 16, Integer.MIN_VALUE, Integer.MAX_VALUE};
        for (int key : wrong) {
            due("4: put(" + key + ")", x.put(key, 1), BAD);
        }
        due("4: a refused put is no act", x.acts(), 4);
        x.arm(0);
        due("4: put by a failed act", x.put(2, 2), CRASHED);
        dueWords("4: nothing is written", x, 4, Forge.erased());
        due("4: put when not ready", x.put(2, 2), CRASHED);
        due("4: BAD goes before CRASHED", x.put(16, 2), BAD);
        BitRotStore y = filled(3);
        y.arm(0);
        due("4: FULL goes before a failed act", y.put(0, 1), FULL);
        due("4: FULL", y.put(5, 1), FULL);
        due("4: after FULL nothing has happened", y.head(), 1);
        due("4: no act", y.acts(), 4);
        due("4: and no crash", y.crashed(), false);
        y.put(0, 1);
        due("4: the old value stays", y.get(0), 100);
    }

    private void remove() {
        BitRotStore x = new BitRotStore(3, 3);
        due("5: remove of a key that was never put", x.remove(3), 1);
        x.put(3, 30);
        due("5: remove", x.remove(3), 0);
        dueWords("5: the record has VALUE 0", x, 1, Forge.record(2, 3, 0, 2));
        due("5: not held", x.has(3), false);
        due("5: remove again", x.remove(3), 1);
        dueWords("5: nothing is appended", x, 2, Forge.erased());
        due("5: acts", x.acts(), 2);
        due("5: put again", x.put(3, 31), 0);
        due("5: get", x.get(3), 31);
        int[] wrong = {-1, 16, Integer.MIN_VALUE, Integer.MAX_VALUE};
        for (int key : wrong) {
            due("5: remove(" + key + ")", x.remove(key), BAD);
        }
        x.arm(0);
        due("5: a key not held needs no act", x.remove(4), 1);
        due("5: remove by a failed act", x.remove(3), CRASHED);
        due("5: CRASHED goes before 1", x.remove(4), CRASHED);
        due("5: BAD goes before CRASHED", x.remove(-1), BAD);
        BitRotStore y = filled(3);
        due("5: remove when full", y.remove(0), FULL);
        due("5: still held", y.has(0), true);
        due("5: not held goes before FULL", y.remove(9), 1);
        due("5: BAD goes before FULL", y.remove(16), BAD);
    }

    private void has() {
        BitRotStore x = new BitRotStore(3, 2);
        x.put(0, 0);
        x.put(15, 0);
        due("6: has(0)", x.has(0), true);
        due("6: has(15)", x.has(15), true);
        due("6: has(1)", x.has(1), false);
        due("6: has(16)", x.has(16), false);
        due("6: has(-1)", x.has(-1), false);
        x.rot(0, 0);
        x.rot(0, 1);
        x.rot(0, 2);
        due("6: whatever became of the bits", x.has(0), true);
        x.arm(0);
        x.put(1, 1);
        due("6: not ready", x.has(15), false);
        BitRotStore y = new BitRotStore(3, 2);
        Forge.onto(y, 0, Forge.record(1, 2, 3, 1));
        due("6: what was not written nor mounted is not known", y.has(2), false);
        y.mount();
        due("6: after mounting", y.has(2), true);
    }

    private void get() {
        BitRotStore x = new BitRotStore(3, 3);
        x.put(4, 44);
        x.put(5, 55);
        x.put(4, 45);
        due("7: the latest", x.get(4), 45);
        due("7: not held", x.get(6), 0);
        due("7: get(-1)", x.get(-1), 0);
        due("7: get(16)", x.get(16), 0);
        x.rot(2, 64);
        x.rot(2, 177);
        due("7: of a mended page", x.get(4), 45);
        x.rot(2, 65);
        due("7: of a bad page", x.get(4), 0);
        x.rot(2, 65);
        due("7: mended again", x.get(4), 45);
        Forge.onto(x, 2, Forge.record(3, 4, 46, 1));
        due("7: what is read there now", x.get(4), 46);
        x.remove(5);
        due("7: removed", x.get(5), 0);
        x.arm(0);
        x.put(1, 1);
        due("7: not ready", x.get(4), 0);
        sameSeq();
    }

    /** Of pages with the same SEQ those in the head go before the others, and then the lowest. */
    private void sameSeq() {
        BitRotStore x = new BitRotStore(3, 2);
        x.put(1, 10);
        x.put(2, 20);
        x.put(1, 30);
        Forge.onto(x, 2, Forge.record(1, 1, 30, 1));
        due("7: mount", x.mount(), 2);
        due("7: the head", x.head(), 1);
        due("7: of the same SEQ the one in the head", x.get(1), 30);
        due("15: only that one is needed", x.needed(0), 1);
        due("15: only that one is needed", x.needed(1), 1);
        x.put(3, 40);
        x.mount();
        due("7: no head now", x.head(), -1);
        due("7: of the same SEQ the one on the lowest page", x.get(1), 10);
        due("15: needed", x.needed(0), 2);
        BitRotStore z = new BitRotStore(3, 2);
        z.put(1, 10);
        z.put(2, 20);
        z.put(1, 30);
        Forge.onto(z, 1, Forge.erased());
        Forge.onto(z, 2, Forge.record(2, 1, 30, 1));
        z.mount();
        due("7: an older one lies in the head", z.head(), 0);
        due("7: a greater SEQ goes before the head", z.get(1), 30);
        BitRotStore y = new BitRotStore(3, 4);
        y.put(1, 10);
        y.put(1, 11);
        Forge.onto(y, 1, Forge.record(1, 1, 11, 1));
        y.mount();
        due("7: both in the head: the lowest", y.get(1), 10);
        neededBeforeTheHeadMoves();
    }

    private void neededBeforeTheHeadMoves() {
        BitRotStore x = new BitRotStore(3, 2);
        x.put(1, 10);
        x.put(2, 20);
        x.put(1, 30);
        Forge.onto(x, 2, Forge.record(1, 1, 30, 1));
        x.mount();
        x.put(2, 21);
        due("15: block 0 has nothing needed", x.needed(0), 0);
        int acts = x.acts();
        due("4: put with a cleaning", x.put(3, 50), 0);
        due("4: nothing is copied from a block that had nothing needed", x.acts() - acts, 2);
        due("7: get", x.get(1), 30);
    }

    private void size() {
        BitRotStore x = new BitRotStore(5, 4);
        due("8: size", x.size(), 0);
        for (int key = 0; key < 16; key++) {
            x.put(key, key);
            due("8: size", x.size(), key + 1);
        }
        due("8: all keys, one block free: FULL", x.put(0, 1), FULL);
        x.init();
        x.put(1, 1);
        x.put(1, 2);
        x.put(2, 2);
        x.remove(1);
        due("8: size of what is held", x.size(), 1);
        x.arm(0);
        x.put(1, 1);
        due("8: not ready", x.size(), CRASHED);
    }

    private void rot() {
        BitRotStore x = new BitRotStore(3, 2);
        int[] words = Forge.erased();
        for (int i = 0; i < Forge.PAGE_BITS; i++) {
            due("9: rot(5, " + i + ")", x.rot(5, i), true);
            words = Forge.turned(words, i);
            due("9: the word", x.word(5, i / 32), words[i / 32]);
        }
        due("9: all bits of PARITY that are used", x.word(5, 5), 0);
        dueWords("9: the page before", x, 4, Forge.erased());
        x.rot(0, 31);
        due("9: bit 31", x.word(0, 0), Integer.MAX_VALUE);
        x.rot(0, 31);
        due("9: turned back", x.word(0, 0), -1);
        int[] wrong = {-1, 6, Integer.MIN_VALUE, Integer.MAX_VALUE};
        for (int p : wrong) {
            due("9: rot of page " + p, x.rot(p, 0), false);
        }
        int[] wrongBits = {-1, 178, 191, 192, Integer.MIN_VALUE, Integer.MAX_VALUE};
        for (int i : wrongBits) {
            due("9: rot of bit " + i, x.rot(0, i), false);
        }
        dueWords("9: nothing was turned", x, 0, Forge.erased());
        x.arm(0);
        due("9: rot is no act", x.rot(0, 0), true);
        due("9: acts", x.acts(), 0);
        due("9: no crash", x.crashed(), false);
    }

    private void scrub() {
        BitRotStore x = new BitRotStore(3, 3);
        due("10: scrub of an erased flash", x.scrub(), 0);
        x.put(1, 10);
        x.put(2, 20);
        x.put(3, 30);
        due("10: scrub of sound pages", x.scrub(), 0);
        x.rot(0, 5);
        x.rot(1, 5);
        x.rot(1, 165);
        x.rot(2, 5);
        x.rot(2, 6);
        x.rot(2, 7);
        x.rot(5, 177);
        x.rot(6, 1);
        x.rot(6, 2);
        x.rot(7, 1);
        x.rot(7, 2);
        x.rot(7, 3);
        int[] lost = Forge.wordsOf(x, 2);
        int[] torn = Forge.wordsOf(x, 7);
        due("10: two mended, two blank", x.scrub(), 4);
        due("10: each is an act", x.acts(), 7);
        dueWords("10: one wrong bit", x, 0, Forge.record(1, 1, 10, 1));
        dueWords("10: two wrong bits", x, 1, Forge.record(2, 2, 20, 1));
        dueWords("10: a bad page stays", x, 2, lost);
        dueWords("10: blank with one bit 0", x, 5, Forge.erased());
        dueWords("10: blank with two bits 0", x, 6, Forge.erased());
        dueWords("10: a bad page stays", x, 7, torn);
        due("10: scrub again", x.scrub(), 0);
        due("10: get of the bad page", x.get(3), 0);
        due("10: the bad page is known", x.has(3), true);
        due("10: no page became written", x.put(4, 40), 0);
        dueWords("10: the next page", x, 3, Forge.record(4, 4, 40, 1));
        x.rot(0, 9);
        x.arm(0);
        x.put(5, 50);
        due("10: not ready", x.scrub(), CRASHED);
        due("10: nothing was written", x.condition(0), MENDED);
    }

    private void scrubInOrder() {
        BitRotStore x = new BitRotStore(3, 2);
        x.put(1, 10);
        x.put(2, 20);
        x.rot(0, 5);
        x.rot(1, 5);
        x.rot(4, 5);
        x.arm(2);
        due("10: the third act fails", x.scrub(), CRASHED);
        due("10: crashed", x.crashed(), true);
        due("10: the first was written", x.condition(0), SOUND);
        due("10: the second was written", x.condition(1), SOUND);
        due("10: the third was not", x.word(4, 0), -1 ^ 1 << 5);
        due("10: two acts", x.acts(), 4);
        due("10: mount", x.mount(), 2);
        x.arm(1);
        due("10: just enough acts", x.scrub(), 1);
        due("10: no act is wanted", x.scrub(), 0);
        due("10: not crashed", x.crashed(), false);
    }

    private void arm() {
        BitRotStore x = new BitRotStore(4, 4);
        due("11: arm(-1)", x.arm(-1), false);
        due("11: arm of the least int", x.arm(Integer.MIN_VALUE), false);
        due("11: a refused arm arms nothing", x.put(1, 1), 0);
        due("11: arm(2)", x.arm(2), true);
        due("11: first act", x.put(1, 2), 0);
        due("11: a refused arm changes nothing", x.arm(-5), false);
        due("11: second act", x.put(1, 3), 0);
        due("11: third act", x.put(1, 4), CRASHED);
        due("11: the third did not happen", x.acts(), 3);
        due("11: arm while crashed", x.arm(9), true);
        due("11: does not make it ready", x.put(1, 4), CRASHED);
        due("11: mount", x.mount(), 1);
        due("11: get", x.get(1), 3);
        x.arm(0);
        due("11: armed anew", x.arm(1), true);
        due("11: one act", x.put(2, 1), 0);
        x.arm(Integer.MAX_VALUE);
        due("11: the greatest int", x.put(2, 2), 0);
        x.arm(3);
        x.arm(1);
        due("11: the last arming counts alone", x.put(2, 3), 0);
        due("11: after its one act", x.put(2, 4), CRASHED);
        armedCleaning();
    }

    private void armedCleaning() {
        for (int n = 0; n <= 4; n++) {
            BitRotStore x = new BitRotStore(3, 3);
            for (int i = 0; i < 6; i++) {
                x.put(i == 5 ? 0 : i, i);
            }
            x.arm(n);
            String name = "11: armed with " + n + ": ";
            due(name + "put that cleans", x.put(6, 6), n < 4 ? CRASHED : 0);
            due(name + "crashed", x.crashed(), n < 4);
            due(name + "acts", x.acts(), 6 + Math.min(n, 4));
            due(name + "first copy", x.condition(6), n >= 1 ? SOUND : BLANK);
            due(name + "second copy", x.condition(7), n >= 2 ? SOUND : BLANK);
            due(name + "the block", x.condition(0), n >= 3 ? BLANK : SOUND);
            due(name + "the new record", x.condition(8), n >= 4 ? SOUND : BLANK);
            due(name + "mount", x.mount(), n >= 4 ? 6 : 5);
            for (int key = 0; key < 6; key++) {
                due(name + "get(" + key + ")", x.get(key), key == 0 ? 5 : key == 5 ? 0 : key);
            }
            due(name + "put after it", x.put(7, 7), n == 4 ? FULL : 0);
        }
    }

    private void crashed() {
        BitRotStore x = new BitRotStore(3, 2);
        due("12: new", x.crashed(), false);
        x.put(1, 1);
        x.arm(0);
        due("12: armed only", x.crashed(), false);
        x.put(1, 2);
        due("12: crashed", x.crashed(), true);
        x.put(1, 2);
        x.arm(5);
        due("12: still", x.crashed(), true);
        x.mount();
        due("12: mounted", x.crashed(), false);
        x.arm(0);
        x.remove(1);
        due("12: by remove", x.crashed(), true);
        x.rot(0, 0);
        x.rot(0, 1);
        x.rot(0, 2);
        due("12: mount finds a bad page", x.mount(), -1);
        due("12: not ready, but not crashed", x.crashed(), false);
    }

    private void condition() {
        int[] wrong = {-1, 6, Integer.MIN_VALUE, Integer.MAX_VALUE};
        for (int p : wrong) {
            due("13: condition(" + p + ")", new BitRotStore(3, 2).condition(p), BAD);
        }
        int[] words = Forge.record(1, 9, 0x5A5A1234, 1);
        for (int i = 0; i < Forge.PAGE_BITS; i++) {
            BitRotStore x = null;
            for (int j = 0; j <= i; j++) {
                // No object is used for more than its 512 calls.
                if (j % 60 == 0) {
                    x = new BitRotStore(3, 2);
                    x.put(9, 0x5A5A1234);
                    x.rot(0, i);
                }
                if (j < i) {
                    x.rot(0, j);
                }
                due("13: condition with bits " + i + " and " + j + " turned", x.condition(0), MENDED);
                due("7: get with bits " + i + " and " + j + " turned", x.get(9), 0x5A5A1234);
                if (j < i) {
                    x.rot(0, j);
                }
            }
            due("13: the page stays as it is", x.word(0, i / 32), Forge.turned(words, i)[i / 32]);
        }
        for (int i = 0; i < Forge.PAGE_BITS; i++) {
            BitRotStore x = new BitRotStore(3, 2);
            x.rot(0, i);
            due("13: blank with bit " + i + " 0", x.condition(0), BLANK);
            x.rot(0, (i + 50) % 178);
            due("13: blank with two bits 0", x.condition(0), BLANK);
            x.rot(0, (i + 90) % 178);
            due("13: three bits 0", x.condition(0), ROTTEN);
        }
    }

    private void conditionOfRecords() {
        dueCondition("13: KIND 1", Forge.record(1, 0, 0, 1), SOUND);
        dueCondition("13: KIND 2", Forge.record(-1, 15, 0, 2), SOUND);
        dueCondition("13: KIND 2 with a value", Forge.record(-1, 15, -1, 2), SOUND);
        dueCondition("13: KIND 0", Forge.record(1, 0, 0, 0), ROTTEN);
        dueCondition("13: KIND 3", Forge.record(1, 0, 0, 3), ROTTEN);
        dueCondition("13: KIND -1", Forge.record(1, 0, 0, -1), ROTTEN);
        dueCondition("13: KEY 16", Forge.record(1, 16, 0, 1), ROTTEN);
        dueCondition("13: KEY -1", Forge.record(1, -1, 0, 1), ROTTEN);
        dueCondition("13: KEY 0x40000000", Forge.record(1, 0x40000000, 0, 1), ROTTEN);
        int check = Forge.check(1, 0, 0, 1);
        dueCondition("13: CHECK with a wrong bit", Forge.withCheck(1, 0, 0, 1, check ^ 1 << 20), ROTTEN);
        dueCondition("13: all bits 0", new int[6], ROTTEN);
        dueCondition("13: mended, but KEY 16", Forge.turned(Forge.record(1, 16, 0, 1), 3), ROTTEN);
        dueCondition("13: mended, but KIND 3", Forge.turned(Forge.record(1, 0, 0, 3), 3, 160), ROTTEN);
        dueCondition("13: KEY is wrong only as it is", Forge.turned(Forge.record(1, 0, 0, 1), 36), MENDED);
        dueCondition("13: PARITY has the wrong bits", Forge.turned(Forge.record(1, 2, 3, 1), 160, 177), MENDED);
    }

    private void dueCondition(String what, int[] words, int want) {
        BitRotStore x = new BitRotStore(3, 2);
        Forge.onto(x, 2, words);
        due(what, x.condition(2), want);
        dueWords(what, x, 2, words);
        due(what + ": mount", x.mount() >= 0, want != ROTTEN);
    }

    private void word() {
        BitRotStore x = new BitRotStore(3, 2);
        x.put(3, 7);
        int[] due = {1, 3, 7, 1, 32893, 44979};
        dueWords("14: the record of the tests", x, 0, due);
        int[][] none = {{-1, 0}, {6, 0}, {0, -1}, {0, 6}, {Integer.MAX_VALUE, 0}, {0, Integer.MIN_VALUE},
            {1, 6}, {Integer.MIN_VALUE, 5}, {0x2AAAAAAB, 0}};
        for (int[] pk : none) {
            due("14: word(" + pk[0] + ", " + pk[1] + ")", x.word(pk[0], pk[1]), 0);
        }
        x.rot(0, 0);
        due("14: as it is", x.word(0, 0), 0);
        x.arm(0);
        x.put(1, 1);
        due("14: when not ready too", x.word(0, 2), 7);
    }

    private void needed() {
        BitRotStore x = new BitRotStore(4, 3);
        x.put(1, 1);
        due("15: a value", x.needed(0), 1);
        x.put(1, 2);
        due("15: only the latest", x.needed(0), 1);
        x.put(2, 2);
        x.remove(1);
        due("15: block 0", x.needed(0), 1);
        due("15: a removal is needed while others have its key", x.needed(1), 1);
        x.remove(2);
        due("15: nothing is needed in block 0", x.needed(0), 0);
        due("15: two removals", x.needed(1), 2);
        due("15: a free block", x.needed(3), 0);
        int[] wrong = {-1, 4, Integer.MIN_VALUE, Integer.MAX_VALUE};
        for (int b : wrong) {
            due("15: needed(" + b + ")", x.needed(b), BAD);
        }
        x.arm(0);
        x.put(5, 5);
        due("15: not ready", x.needed(0), CRASHED);
        due("15: BAD goes before CRASHED", x.needed(4), BAD);
        BitRotStore y = new BitRotStore(3, 2);
        Forge.onto(y, 0, Forge.record(7, 1, 0, 2));
        y.mount();
        due("15: a removal alone is not needed", y.needed(0), 0);
        due("15: nor is its key held", y.size(), 0);
        BitRotStore z = new BitRotStore(3, 2);
        z.put(1, 1);
        z.put(2, 2);
        z.rot(0, 1);
        z.rot(0, 2);
        z.rot(0, 3);
        due("15: whatever became of the bits", z.needed(0), 2);
    }

    private void head() {
        BitRotStore x = new BitRotStore(4, 2);
        due("16: none", x.head(), -1);
        x.put(1, 1);
        due("16: the lowest free block", x.head(), 0);
        x.put(2, 2);
        due("16: the head stays when it is full", x.head(), 0);
        x.put(1, 3);
        due("16: the next", x.head(), 1);
        x.put(2, 4);
        x.put(3, 5);
        due("16: with two free blocks no cleaning", x.acts(), 5);
        due("16: head", x.head(), 2);
        x.put(4, 6);
        x.put(5, 7);
        due("16: with one free block a cleaning", x.acts(), 8);
        due("16: the head is the block that was free", x.head(), 3);
        x.put(1, 8);
        x.put(1, 9);
        due("16: the block that was cleaned is the next", x.head(), 0);
        x.arm(0);
        x.put(1, 1);
        due("16: not ready", x.head(), CRASHED);
    }

    private void acts() {
        BitRotStore x = new BitRotStore(3, 2);
        due("17: none", x.acts(), 0);
        x.put(1, 1);
        x.remove(1);
        x.remove(1);
        x.put(16, 1);
        x.get(1);
        x.mount();
        x.rot(0, 0);
        due("17: two writings", x.acts(), 2);
        x.scrub();
        due("17: scrub", x.acts(), 3);
        x.put(2, 2);
        x.put(3, 3);
        due("17: five", x.acts(), 5);
        x.put(4, 4);
        due("17: a copy of the removal, an erasing, a writing", x.acts(), 8);
        dueWords("17: the copy", x, 4, Forge.record(2, 1, 0, 2));
        x.arm(0);
        x.put(5, 5);
        due("17: what did not happen is not counted", x.acts(), 8);
        x.init();
        due("17: init is none, and the count goes on", x.acts(), 8);
    }
}
