/** The sentences of the promises; those of 11, 12 and 17 are with the acts, in ActsSentencesTest. */
public final class PromiseSentencesTest {
    private static final int[] KEYS_OUT = {-1, 16, 17, -16, 1 << 30, Integer.MIN_VALUE, Integer.MAX_VALUE};
    private static final int GREATEST = Integer.MAX_VALUE;
    private static final int LEAST = Integer.MIN_VALUE;

    private final Sentences s = new Sentences("PromiseSentencesTest");

    public static void main(String[] args) {
        PromiseSentencesTest t = new PromiseSentencesTest();
        t.makingAnObject();
        t.mounting();
        t.writing();
        t.asking();
        t.rotAndScrub();
        t.lookingInside();
        t.s.end();
    }

    private void makingAnObject() {
        s.test("An object is used for at most 512 calls after it has been made", this::lastCall);
        s.test("`CRASHED = -2`: The store is not ready.", this::constantCrashed);
        s.test("`FULL = -1`: There is no room.", this::constantFull);
        s.test("`BAD = -3`: A number is out of its range.", this::constantBad);
        s.test("B is blocks, but 3 when that is less and 5 when it is more", this::numberOfBlocks);
        s.test("P is pages, but 2 when that is less and 4 when it is more.", this::numberOfPages);
        s.test("All is as after init().", this::newIsAsAfterInit);
        s.test("All blocks are erased (this counts as no act)", this::initErases);
        s.test("acts are not armed, the store is ready and not crashed", this::initMakesReady);
        s.test("no page is written, there is no head, NEXT is 1.", this::initForgets);
    }

    private void mounting() {
        s.test("the store is not crashed, acts are not armed.", this::mountEndsTheCrash, this::mountDisarms);
        s.test("All pages are read. When one is bad, the store is not ready and the answer is -1.",
            this::mountOfBadPages, this::mountOfWrongRecords);
        s.test("Otherwise it is ready: the pages that are not blank are written, with what is read there",
            this::mountFindsPages, this::mountForgetsPages);
        s.test("NEXT is 1 more than the greatest SEQ of them (1 when there are none)", this::mountFindsNext,
            this::mountOfNothing);
        s.test("HEAD is the lowest block of which some pages are written and some not", this::mountFindsTheHead);
        s.test("if there is one, otherwise none.", this::mountFindsNoHead);
        s.test("When no block is free, there is a cleaning then, if it can be.", this::mountCleans,
            this::mountWithAFreeBlock, this::mountThatCannotClean);
        s.test("Answers how many keys are held.", this::mountCountsKeys);
    }

    private void writing() {
        s.test("Appends the value of a key: 0.", this::putOfEachKey);
        s.test("The first of these that holds: BAD when key is not 0 .. 15, CRASHED when the store is not ready, FULL;"
            + " or CRASHED by an act.", this::putIsBad, this::putIsNotReady, this::putIsFull, this::putIsCrashed);
        s.test("Removes a key, appending that it is removed (with VALUE 0): 0.", this::removeOfEachKey);
        s.test("BAD, CRASHED and FULL as for put", this::removeIsRefused);
        s.test("1, when the store is ready and the key is not held (nothing is appended).", this::removeOfNothing);
    }

    private void asking() {
        s.test("Whether a key is held. False when the store is not ready.", this::hasAtTheEdges);
        s.test("The VALUE read on the page of the key's latest", this::getOfTheLatest);
        s.test("0 when it is not held, that page is blank or bad, or the store is not ready.", this::getOfNothing);
        s.test("How many keys are held; CRASHED when the store is not ready.", this::sizes);
    }

    private void rotAndScrub() {
        s.test("Bit i of page p is turned round (this is no act): true.", this::rotTurns);
        s.test("False when there is no such page or bit.", this::rotOfNothing);
        s.test("Every page, in order, that is mended, or is blank and has a bit 0, is written as it is read, or as"
            + " erased: each is one act.", this::scrubWrites, this::scrubLeaves);
        s.test("Answers how many were; CRASHED when the store is not ready, or by an act.", this::scrubAnswers);
    }

    private void lookingInside() {
        s.test("The condition of page p: 0 blank, 1 sound, 2 mended, 3 bad; BAD when there is no such page.",
            this::conditions);
        s.test("Word k (0 .. 5) of page p as it is; 0 when there is none.", this::words);
        s.test("How many needed pages block b has; BAD when there is no such block; otherwise CRASHED when the store is"
            + " not ready.", this::neededOfNothing);
        s.test("The head, -1 for none; CRASHED when the store is not ready.", this::heads);
    }

    /** Two stores that are not ready, in both ways: by a crash and by a mounting with a bad page. */
    private static Probe[] notReady() {
        Probe[] both = {Probe.with(3, 4, 1, 2), Probe.with(3, 4, 1, 2)};
        both[0].crash();
        both[1].spoil(11);
        both[1].mount();
        return both;
    }

    private void lastCall() {
        Probe x = new Probe(3, 2);
        for (int i = 0; i < 511; i++) {
            s.due("put " + i, x.put(1, i), 0);
        }
        s.due("the 512th call", x.get(1), 510);
    }

    private void constantCrashed() {
        s.due("CRASHED", BitRotStore.CRASHED, -2);
        for (Probe x : notReady()) {
            s.due("put", x.put(1, 1), BitRotStore.CRASHED);
        }
    }

    private void constantFull() {
        s.due("FULL", BitRotStore.FULL, -1);
        s.due("put", Probe.with(3, 2, 0, 1, 2, 3).put(4, 4), BitRotStore.FULL);
    }

    private void constantBad() {
        s.due("BAD", BitRotStore.BAD, -3);
        Probe x = new Probe(3, 2);
        s.due("put", x.put(16, 1), BitRotStore.BAD);
        s.due("condition", x.condition(6), BitRotStore.BAD);
        s.due("needed", x.needed(3), BitRotStore.BAD);
    }

    private void numberOfBlocks() {
        int[][] cases = {{3, 3}, {4, 4}, {5, 5}, {2, 3}, {6, 5}, {1, 3}, {0, 3}, {-1, 3}, {100, 5}, {LEAST, 3},
            {GREATEST, 5}};
        for (int[] c : cases) {
            BitRotStore x = new BitRotStore(c[0], 3);
            s.due("blocks " + c[0] + ": the last", x.needed(c[1] - 1), 0);
            s.due("blocks " + c[0] + ": none behind", x.needed(c[1]), Probe.BAD);
            s.due("blocks " + c[0] + ": the last page", x.condition(c[1] * 3 - 1), Probe.BLANK);
            s.due("blocks " + c[0] + ": none behind", x.condition(c[1] * 3), Probe.BAD);
        }
    }

    private void numberOfPages() {
        int[][] cases = {{2, 2}, {3, 3}, {4, 4}, {1, 2}, {5, 4}, {0, 2}, {-1, 2}, {100, 4}, {LEAST, 2}, {GREATEST, 4}};
        for (int[] c : cases) {
            BitRotStore x = new BitRotStore(4, c[0]);
            s.due("pages " + c[0] + ": the last page", x.condition(4 * c[1] - 1), Probe.BLANK);
            s.due("pages " + c[0] + ": none behind", x.condition(4 * c[1]), Probe.BAD);
            for (int i = 0; i < c[1]; i++) {
                x.put(1, i);
                s.due("pages " + c[0] + ": put " + i, x.head(), 0);
            }
            x.put(1, 1);
            s.due("pages " + c[0] + ": the next block", x.head(), 1);
        }
    }

    private void newIsAsAfterInit() {
        for (int blocks = 3; blocks <= 5; blocks++) {
            for (int pages = 2; pages <= 4; pages++) {
                Probe x = new Probe(blocks, pages);
                int[] made = x.all();
                x.init();
                s.dueRow(blocks + " blocks of " + pages, x.all(), made);
                s.due("put", x.put(1, 1), 0);
                s.dueWords("NEXT", x, 0, Forge.record(1, 1, 1, 1));
            }
        }
    }

    private void dueErased(String what, Probe x) {
        for (int p = 0; p < x.pages(); p++) {
            s.dueWords(what, x, p, Forge.erased());
        }
    }

    private void initErases() {
        Probe x = Probe.with(3, 3, 1, 2, 3, 4, 5);
        x.spoil(0);
        x.turn(8, 177);
        x.init();
        dueErased("after init", x);
        s.due("acts", x.acts(), 5);
        x.arm(0);
        x.init();
        s.due("acts are not wanted", x.crashed(), false);
        s.due("acts", x.acts(), 5);
        x.init();
        dueErased("after init of an erased flash", x);
    }

    private void initMakesReady() {
        Probe x = Probe.with(3, 4, 1);
        x.arm(0);
        x.init();
        s.due("armed before: put", x.put(1, 1), 0);
        Probe[] both = notReady();
        for (Probe y : both) {
            y.init();
            s.due("not crashed", y.crashed(), false);
            s.due("size", y.size(), 0);
            s.due("head", y.head(), -1);
            s.due("put", y.put(1, 1), 0);
            s.due("put", y.put(2, 2), 0);
        }
    }

    private void initForgets() {
        Probe x = Probe.with(3, 2, 1, 2, 3, 4);
        s.due("full", x.put(5, 5), Probe.FULL);
        x.init();
        s.due("head", x.head(), -1);
        for (int key = 0; key < 16; key++) {
            s.due("has(" + key + ")", x.has(key), false);
        }
        for (int b = 0; b < 3; b++) {
            s.due("needed(" + b + ")", x.needed(b), 0);
        }
        x.puts(5);
        s.due("the lowest block is free", x.head(), 0);
        s.dueWords("NEXT", x, 0, Forge.record(1, 5, 105, 1));
        x.puts(6, 7, 8);
        s.due("there is room as in a new one", x.size(), 4);
    }

    private void mountEndsTheCrash() {
        Probe x = Probe.with(3, 4, 1);
        x.crash();
        s.due("mount", x.mount(), 1);
        s.due("crashed", x.crashed(), false);
        s.due("put", x.put(1, 1), 0);
        x.crash();
        x.spoil(7);
        s.due("mount with a bad page", x.mount(), -1);
        s.due("crashed", x.crashed(), false);
    }

    private void mountDisarms() {
        Probe x = Probe.with(3, 4, 1);
        x.arm(0);
        s.due("mount", x.mount(), 1);
        s.due("put", x.put(1, 1), 0);
        Probe y = Probe.with(3, 2, 0, 1, 1, 2);
        y.arm(1);
        y.put(3, 3);
        y.arm(0);
        s.due("a mounting that cleans", y.mount(), 3);
        s.due("an erasing", y.acts(), 6);
    }

    private void mountOfBadPages() {
        for (int p = 0; p < 6; p++) {
            Probe x = Probe.with(3, 2, 1, 2, 3);
            x.turn(p, 1, 2);
            s.due("two wrong bits on page " + p, x.mount(), 3);
            x.turn(p, 3);
            s.due("three wrong bits on page " + p + ", not mounted", x.size(), 3);
            int[] before = x.words(p);
            s.due("three wrong bits on page " + p, x.mount(), -1);
            s.due("size", x.size(), Probe.CRASHED);
            s.due("put", x.put(1, 1), Probe.CRASHED);
            s.dueWords("the page stays", x, p, before);
            s.due("acts", x.acts(), 3);
            s.due("mount again", x.mount(), -1);
            x.turn(p, 3);
            s.due("two again", x.mount(), 3);
        }
        Probe y = Probe.with(3, 2, 1);
        y.spoil(0);
        y.spoil(5);
        s.due("two bad pages", y.mount(), -1);
        y.turn(0, 1);
        s.due("one of them", y.mount(), -1);
        y.turn(5, 1);
        s.due("none", y.mount(), 1);
    }

    private void mountOfWrongRecords() {
        int[][] pages = {Forge.record(1, 16, -1, 1), Forge.record(1, -1, -1, 1), Forge.record(1, 0, -1, 0),
            Forge.record(1, 0, -1, 3), Forge.withCheck(1, 0, -1, 1, 0)};
        for (int[] words : pages) {
            Probe x = new Probe(3, 2);
            x.onto(3, words);
            s.due("KEY " + words[1] + ", KIND " + words[3] + ", CHECK " + words[4], x.mount(), -1);
            s.due("head", x.head(), Probe.CRASHED);
        }
    }

    private void mountFindsPages() {
        Probe x = new Probe(3, 2);
        x.onto(4, Forge.turned(Forge.record(8, 15, 7, 1), 31, 32));
        s.due("not known before", x.has(15), false);
        s.due("mount", x.mount(), 1);
        s.due("KEY", x.has(15), true);
        s.due("KEY is not as it is", x.has(14), false);
        s.due("get", x.get(15), 7);
        s.due("needed", x.needed(2), 1);
        s.due("head", x.head(), 2);
        x.puts(1);
        s.dueWords("SEQ", x, 5, Forge.record(9, 1, 101, 1));
    }

    private void mountForgetsPages() {
        Probe x = Probe.with(3, 2, 1, 2);
        x.onto(0, Forge.turned(Forge.erased(), 0, 177));
        s.due("known before", x.has(1), true);
        s.due("mount", x.mount(), 1);
        s.due("blank with two bits 0", x.has(1), false);
        s.due("needed", x.needed(0), 1);
        s.due("head", x.head(), 0);
        x.puts(3);
        s.dueWords("the page is written", x, 0, Forge.record(3, 3, 103, 1));
    }

    private void mountFindsNext() {
        int[][] cases = {{41, 42}, {1, 2}, {0, 1}, {-1, 0}, {-2, -1}, {-7, -6}, {GREATEST - 1, GREATEST},
            {GREATEST, LEAST}, {LEAST, LEAST + 1}};
        for (int[] c : cases) {
            Probe x = Probe.with(3, 2, 5);
            x.onto(0, Forge.record(c[0], 5, 50, 1));
            s.due("mount with SEQ " + c[0], x.mount(), 1);
            x.put(6, 60);
            s.dueWords("after SEQ " + c[0], x, 1, Forge.record(c[1], 6, 60, 1));
        }
        Probe y = Probe.with(3, 4, 1, 2, 3);
        y.onto(1, Forge.record(9, 2, 102, 1));
        y.mount();
        y.puts(4);
        s.due("the greatest lies in the middle", y.word(3, 0), 10);
        Probe z = Probe.with(3, 4, 1, 2);
        z.onto(1, Forge.record(7, 1, 102, 2));
        z.mount();
        z.puts(4);
        s.due("the greatest is a removal", z.word(2, 0), 8);
    }

    private void mountOfNothing() {
        Probe x = Probe.with(3, 2, 1, 2);
        x.erase(0, 1);
        s.due("mount", x.mount(), 0);
        s.due("head", x.head(), -1);
        x.puts(3);
        s.dueWords("NEXT is 1", x, 0, Forge.record(1, 3, 103, 1));
        Probe y = new Probe(3, 2);
        y.turn(0, 0, 1);
        y.turn(5, 176, 177);
        s.due("mount of a flash with blank pages alone", y.mount(), 0);
        y.puts(3);
        s.due("NEXT is 1", y.word(0, 0), 1);
    }

    private void mountFindsTheHead() {
        for (int p = 0; p < 6; p++) {
            Probe x = new Probe(3, 2);
            x.onto(p, Forge.record(-1, 3, -1, 1));
            x.mount();
            s.due("page " + p + " alone is written", x.head(), p / 2);
        }
        Probe y = new Probe(4, 2);
        y.onto(3, Forge.record(-1, 1, -1, 1));
        y.onto(4, Forge.record(-2, 2, -1, 1));
        y.mount();
        s.due("the lowest of two", y.head(), 1);
        y.puts(3);
        y.mount();
        s.due("then the other", y.head(), 2);
    }

    private void mountFindsNoHead() {
        Probe x = new Probe(3, 2);
        x.mount();
        s.due("no page is written", x.head(), -1);
        x.puts(1, 2);
        s.due("a full head", x.head(), 0);
        x.mount();
        s.due("all pages of the block are written", x.head(), -1);
        x.puts(3);
        s.due("the lowest free block", x.head(), 1);
    }

    private void mountCleans() {
        Probe x = Probe.with(3, 2, 0, 1, 1, 2);
        x.arm(1);
        x.put(3, 103);
        s.due("mount", x.mount(), 3);
        s.due("the erasing that did not happen", x.acts(), 6);
        s.dueWords("erased", x, 0, Forge.erased());
        s.due("there is room", x.put(3, 103), 0);
        Probe y = Probe.with(3, 3, 0, 1, 2, 0, 3, 4);
        y.arm(1);
        y.put(5, 105);
        s.due("mount after one of two copies", y.mount(), 5);
        s.due("the other copy and the erasing", y.acts(), 9);
        s.dueWords("the copies", y, 6, Forge.record(2, 1, 101, 1));
        s.dueWords("the copies", y, 7, Forge.record(3, 2, 102, 1));
        s.dueWords("erased", y, 1, Forge.erased());
    }

    private void mountWithAFreeBlock() {
        Probe x = Probe.with(3, 2, 1, 1, 1, 1);
        s.due("block 0 has nothing needed", x.needed(0), 0);
        s.due("mount", x.mount(), 1);
        s.due("no act", x.acts(), 4);
        s.dueWords("not erased", x, 0, Forge.record(1, 1, 101, 1));
    }

    private void mountThatCannotClean() {
        Probe x = Probe.with(3, 2, 0, 1, 2, 3);
        x.onto(5, Forge.record(-1, 4, -1, 1));
        s.due("mount", x.mount(), 5);
        s.due("no act", x.acts(), 4);
        s.due("ready", x.size(), 5);
        s.due("head", x.head(), 2);
        s.due("put", x.put(5, 5), 0);
        s.due("mount with no page left", x.mount(), 6);
        s.due("no act", x.acts(), 5);
        s.due("head", x.head(), -1);
        s.due("put", x.put(5, 5), Probe.FULL);
    }

    private void mountCountsKeys() {
        s.due("none", new Probe(3, 2).mount(), 0);
        Probe x = Probe.with(5, 4, 0, 1, 2, 3, 4, 5, 6, 7, 8, 9, 10, 11, 12, 13, 14, 15);
        s.due("all 16", x.mount(), 16);
        Probe y = Probe.with(5, 4, 1, 1, 2, 3);
        y.remove(2);
        s.due("what is held", y.mount(), 2);
        y.remove(1);
        y.remove(3);
        s.due("nothing is held", y.mount(), 0);
    }

    private void putOfEachKey() {
        Probe x = new Probe(5, 4);
        for (int key = 0; key < 16; key++) {
            s.due("put(" + key + ")", x.put(key, -key), 0);
            s.due("get(" + key + ")", x.get(key), -key);
        }
        Probe y = new Probe(3, 2);
        s.due("put", y.put(0, 5), 0);
        s.due("the same again", y.put(0, 5), 0);
        s.due("it is appended", y.word(1, 0), 2);
    }

    /** BAD goes before all else. */
    private void putIsBad() {
        for (int key : KEYS_OUT) {
            s.due("put(" + key + ")", new Probe(3, 2).put(key, 1), Probe.BAD);
            for (Probe x : notReady()) {
                s.due("not ready: put(" + key + ")", x.put(key, 1), Probe.BAD);
            }
            Probe y = Probe.with(3, 2, 0, 1, 2, 3);
            s.due("full: put(" + key + ")", y.put(key, 1), Probe.BAD);
            Probe z = Probe.with(3, 2, 0);
            z.arm(0);
            int[] before = z.all();
            s.due("armed: put(" + key + ")", z.put(key, 1), Probe.BAD);
            s.dueRow("nothing happens", z.all(), before);
        }
    }

    private void putIsNotReady() {
        for (Probe x : notReady()) {
            int[] before = x.all();
            s.due("put(0)", x.put(0, 1), Probe.CRASHED);
            s.due("put(15)", x.put(15, 1), Probe.CRASHED);
            s.dueRow("nothing happens", x.all(), before);
        }
        Probe y = Probe.with(3, 2, 0, 1, 2, 3);
        y.crash();
        s.due("CRASHED goes before FULL", y.put(0, 1), Probe.CRASHED);
    }

    private void putIsFull() {
        Probe x = Probe.with(3, 2, 0, 1, 2, 3);
        s.due("FULL", x.put(0, 1), Probe.FULL);
        x.arm(0);
        s.due("FULL goes before an act", x.put(0, 1), Probe.FULL);
        s.due("crashed", x.crashed(), false);
        s.due("the value stays", x.get(0), 100);
    }

    private void putIsCrashed() {
        Probe x = Probe.with(3, 2, 0);
        x.arm(0);
        s.due("by the writing", x.put(1, 1), Probe.CRASHED);
        s.dueWords("nothing is written", x, 1, Forge.erased());
        s.due("mount", x.mount(), 1);
        s.due("put", x.put(1, 1), 0);
        s.dueWords("NEXT", x, 1, Forge.record(2, 1, 1, 1));
    }

    private void removeOfEachKey() {
        for (int key = 0; key < 16; key++) {
            Probe x = Probe.with(3, 2, key);
            s.due("remove(" + key + ")", x.remove(key), 0);
            s.dueWords("remove(" + key + ")", x, 1, Forge.record(2, key, 0, 2));
            s.due("has(" + key + ")", x.has(key), false);
            s.due("size", x.size(), 0);
        }
    }

    private void removeIsRefused() {
        for (int key : KEYS_OUT) {
            s.due("remove(" + key + ")", new Probe(3, 2).remove(key), Probe.BAD);
            for (Probe x : notReady()) {
                s.due("not ready: remove(" + key + ")", x.remove(key), Probe.BAD);
            }
            s.due("full: remove(" + key + ")", Probe.with(3, 2, 0, 1, 2, 3).remove(key), Probe.BAD);
        }
        for (Probe x : notReady()) {
            s.due("not ready: a key that was held", x.remove(1), Probe.CRASHED);
        }
        Probe y = Probe.with(3, 2, 0, 1, 2, 3);
        s.due("FULL", y.remove(0), Probe.FULL);
        y.arm(0);
        s.due("FULL goes before an act", y.remove(0), Probe.FULL);
        s.due("held still", y.has(0), true);
        y.crash();
        s.due("CRASHED goes before FULL", y.remove(0), Probe.CRASHED);
        Probe z = Probe.with(3, 2, 0);
        z.arm(0);
        s.due("by an act", z.remove(0), Probe.CRASHED);
        s.due("mount", z.mount(), 1);
    }

    private void removeOfNothing() {
        Probe x = new Probe(3, 2);
        for (int key = 0; key < 16; key++) {
            s.due("remove(" + key + ")", x.remove(key), 1);
        }
        s.due("nothing is appended", x.acts(), 0);
        s.due("no head", x.head(), -1);
        x.puts(1);
        x.remove(1);
        s.due("removed already", x.remove(1), 1);
        s.due("acts", x.acts(), 2);
        Probe y = Probe.with(3, 2, 0, 1, 2, 3);
        s.due("nothing is appended when full", y.remove(9), 1);
        y.arm(0);
        s.due("no act is wanted", y.remove(9), 1);
        s.due("not crashed", y.crashed(), false);
        for (Probe z : notReady()) {
            s.due("not ready", z.remove(9), Probe.CRASHED);
        }
    }

    private void hasAtTheEdges() {
        Probe x = Probe.with(3, 2, 0, 15);
        for (int key = 0; key < 16; key++) {
            s.due("has(" + key + ")", x.has(key), key == 0 || key == 15);
        }
        for (int key : KEYS_OUT) {
            s.due("has(" + key + ")", x.has(key), false);
        }
        for (Probe y : notReady()) {
            s.due("not ready", y.has(1), false);
        }
    }

    private void getOfTheLatest() {
        Probe x = new Probe(3, 4);
        x.put(0, GREATEST);
        x.put(0, LEAST);
        s.due("the latest", x.get(0), LEAST);
        x.turn(1, 95);
        s.due("as read on a mended page", x.get(0), LEAST);
        x.onto(1, Forge.record(2, 0, 5, 1));
        s.due("as read there now", x.get(0), 5);
        x.onto(1, Forge.record(9, 7, 6, 2));
        s.due("whatever else is read there", x.get(0), 6);
        s.due("the key that is read there", x.get(7), 0);
    }

    private void getOfNothing() {
        Probe x = Probe.with(3, 4, 1, 2, 3, 4);
        s.due("never put", x.get(5), 0);
        x.remove(4);
        s.due("removed", x.get(4), 0);
        for (int key : KEYS_OUT) {
            s.due("get(" + key + ")", x.get(key), 0);
        }
        x.onto(0, Forge.turned(Forge.erased(), 64, 65));
        s.due("blank", x.get(1), 0);
        x.spoil(1);
        s.due("bad", x.get(2), 0);
        x.onto(2, Forge.record(3, 16, 103, 1));
        s.due("bad by its KEY", x.get(3), 0);
        for (Probe y : notReady()) {
            s.due("not ready", y.get(1), 0);
        }
        Probe z = Probe.with(3, 4, 1, 1);
        z.spoil(1);
        s.due("an older page does not stand in for a bad one", z.get(1), 0);
        z.onto(1, Forge.record(2, 1, 101, 2));
        z.mount();
        s.due("removed, on a page that has a VALUE", z.get(1), 0);
    }

    private void sizes() {
        Probe x = new Probe(5, 4);
        for (int key = 0; key < 16; key++) {
            s.due("size", x.size(), key);
            x.puts(key);
        }
        s.due("all keys", x.size(), 16);
        for (Probe y : notReady()) {
            s.due("not ready", y.size(), Probe.CRASHED);
        }
    }

    private void rotTurns() {
        Probe x = Probe.with(3, 2, 1);
        x.arm(0);
        s.due("the first bit", x.rot(0, 0), true);
        s.due("it was 1", x.word(0, 0), 0);
        s.due("turned back", x.rot(0, 0), true);
        s.due("it was 0", x.word(0, 0), 1);
        s.due("the last bit of the last page", x.rot(5, 177), true);
        s.due("it was 1", x.word(5, 5), 0x1FFFF);
        s.due("no act", x.acts(), 1);
        s.due("not crashed", x.crashed(), false);
        for (Probe y : notReady()) {
            s.due("not ready", y.rot(0, 31), true);
            s.due("the sign of SEQ", y.word(0, 0), 1 | LEAST);
        }
    }

    private void rotOfNothing() {
        int[] bits = {-1, 178, 179, 191, 192, -32, 1 << 30, LEAST, GREATEST};
        int[] pages = {-1, 6, 7, 1 << 30, 0x2AAAAAAB, 0x15555556, LEAST, GREATEST};
        Probe x = Probe.with(3, 2, 1);
        int[] before = x.all();
        for (int i : bits) {
            s.due("rot(0, " + i + ")", x.rot(0, i), false);
            s.due("rot(5, " + i + ")", x.rot(5, i), false);
        }
        for (int p : pages) {
            s.due("rot(" + p + ", 0)", x.rot(p, 0), false);
            s.due("rot(" + p + ", 177)", x.rot(p, 177), false);
            s.due("rot(" + p + ", 178)", x.rot(p, 178), false);
        }
        s.dueRow("nothing is turned round", x.all(), before);
    }

    private void scrubWrites() {
        Probe x = Probe.with(3, 4, 1, 2);
        x.turn(0, 177);
        x.turn(1, 64, 128);
        x.turn(2, 0);
        x.turn(11, 0, 177);
        s.due("two mended, two blank", x.scrub(), 4);
        s.dueWords("one wrong bit", x, 0, Forge.record(1, 1, 101, 1));
        s.dueWords("two wrong bits", x, 1, Forge.record(2, 2, 102, 1));
        s.dueWords("a bit 0", x, 2, Forge.erased());
        s.dueWords("two bits 0", x, 11, Forge.erased());
        s.due("each is one act", x.acts(), 6);
        s.due("nothing is left", x.scrub(), 0);
        s.due("no act", x.acts(), 6);
        x.turn(3, 5);
        x.turn(0, 5);
        x.arm(1);
        s.due("in order", x.scrub(), Probe.CRASHED);
        s.due("the lower page was written", x.condition(0), Probe.SOUND);
        s.due("the higher was not", x.word(3, 0), ~(1 << 5));
    }

    private void scrubLeaves() {
        Probe x = Probe.with(3, 4, 1, 2);
        x.spoil(0);
        x.spoil(5);
        x.onto(6, Forge.record(1, 16, -1, 1));
        int[] before = x.all();
        s.due("sound, bad and erased pages", x.scrub(), 0);
        s.dueRow("nothing is written", x.all(), before);
        Probe y = Probe.with(3, 4, 1);
        y.onto(6, Forge.turned(Forge.record(1, 0, -1, 3), 50));
        s.due("mended by PARITY alone, so bad", y.scrub(), 0);
    }

    private void scrubAnswers() {
        s.due("none", new Probe(3, 2).scrub(), 0);
        Probe x = new Probe(5, 4);
        for (int p = 0; p < 20; p++) {
            x.turn(p, p);
        }
        s.due("every page", x.scrub(), 20);
        for (Probe y : notReady()) {
            y.turn(0, 9);
            s.due("not ready", y.scrub(), Probe.CRASHED);
            s.due("nothing is written", y.condition(0), Probe.MENDED);
        }
        Probe z = Probe.with(3, 2, 1);
        z.arm(0);
        s.due("no act is wanted", z.scrub(), 0);
        z.turn(0, 9);
        s.due("by an act", z.scrub(), Probe.CRASHED);
        s.due("crashed", z.crashed(), true);
    }

    private void conditions() {
        Probe x = Probe.with(3, 2, 1, 2, 3);
        x.turn(1, 9);
        x.spoil(2);
        s.due("blank", x.condition(5), 0);
        s.due("sound", x.condition(0), 1);
        s.due("mended", x.condition(1), 2);
        s.due("bad", x.condition(2), 3);
        int[] pages = {-1, 6, 7, 1 << 30, 0x2AAAAAAB, LEAST, GREATEST};
        for (int p : pages) {
            s.due("condition(" + p + ")", x.condition(p), Probe.BAD);
        }
        for (Probe y : notReady()) {
            s.due("not ready: sound", y.condition(0), 1);
            s.due("not ready: no such page", y.condition(12), Probe.BAD);
        }
    }

    private void words() {
        Probe x = Probe.with(3, 2, 3);
        x.turn(0, 0);
        s.due("as it is", x.word(0, 0), 0);
        s.due("the last word of the last page", x.word(5, 5), 262143);
        int[] pages = {-1, 6, 1 << 30, 0x2AAAAAAB, 0x15555556, LEAST, GREATEST};
        for (int p : pages) {
            for (int k = -1; k <= 6; k++) {
                s.due("word(" + p + ", " + k + ")", x.word(p, k), 0);
            }
        }
        int[] none = {-1, 6, 7, 12, LEAST, GREATEST};
        for (int k : none) {
            for (int p = 0; p < 6; p++) {
                s.due("word(" + p + ", " + k + ")", x.word(p, k), 0);
            }
        }
        for (Probe y : notReady()) {
            s.due("not ready", y.word(0, 2), 101);
        }
    }

    private void neededOfNothing() {
        int[] blocks = {-1, 3, 4, 1 << 30, LEAST, GREATEST};
        Probe x = Probe.with(3, 4, 1);
        s.due("the first", x.needed(0), 1);
        s.due("the last", x.needed(2), 0);
        for (int b : blocks) {
            s.due("needed(" + b + ")", x.needed(b), Probe.BAD);
            for (Probe y : notReady()) {
                s.due("not ready: needed(" + b + ")", y.needed(b), Probe.BAD);
            }
        }
        for (Probe y : notReady()) {
            s.due("not ready: needed(0)", y.needed(0), Probe.CRASHED);
            s.due("not ready: needed(2)", y.needed(2), Probe.CRASHED);
        }
    }

    private void heads() {
        Probe x = new Probe(3, 2);
        s.due("none", x.head(), -1);
        x.puts(1);
        s.due("block 0", x.head(), 0);
        for (Probe y : notReady()) {
            s.due("not ready", y.head(), Probe.CRASHED);
            y.init();
            s.due("none", y.head(), -1);
        }
    }
}
