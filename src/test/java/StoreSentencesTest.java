/** The sentences under "Terms" on THE STORE: what it knows, latest, held, needed, HEAD, NEXT and free. */
public final class StoreSentencesTest {
    private static final int GREATEST = Integer.MAX_VALUE;
    private static final int LEAST = Integer.MIN_VALUE;

    private final Sentences s = new Sentences("StoreSentencesTest");

    public static void main(String[] args) {
        StoreSentencesTest t = new StoreSentencesTest();
        t.knowing();
        t.latest();
        t.held();
        t.needed();
        t.headNextAndFree();
        t.s.end();
    }

    private void knowing() {
        s.test("THE STORE is READY or not.", this::readyOrNot);
        s.test("When it is ready it knows of each page whether it is WRITTEN", this::writtenButBad,
            this::writtenButBlank, this::recordNotWritten);
        s.test("and then the SEQ, KEY and KIND that were written there", this::writtenThere);
        s.test("or read at mounting", this::readAtMounting);
        s.test("(whatever became of the bits since).", this::scrubbedAsAnotherRecord, this::scrubbedAsErased,
            this::scrubbedButNotWritten, this::scrubbedAndMounted);
    }

    private void latest() {
        s.test("A record of a key is its LATEST when no written page with the key has a greater SEQ",
            this::greatestSeq, this::greatestSeqOfInts);
        s.test("of several with the same SEQ those that lie in the HEAD go before the others", this::headGoesBefore);
        s.test("and then the one on the lowest page.", this::lowestPageThen);
    }

    private void held() {
        s.test("A key is HELD when its latest is of KIND 1.", this::heldByKind);
    }

    private void needed() {
        s.test("A written page is NEEDED when it is the latest of its key and either of KIND 1", this::neededValue);
        s.test("or another written page has its key.", this::neededRemoval);
    }

    private void headNextAndFree() {
        s.test("HEAD is a block or none", this::headOrNone);
        s.test("NEXT an int.", this::nextWrapsRound);
        s.test("A block is FREE when none of its pages is written.", this::freeBlocks);
    }

    private void dueReady(String what, Probe x, boolean ready) {
        s.due(what + ": size", x.size() >= 0, ready);
        s.due(what + ": head", x.head() != Probe.CRASHED, ready);
        s.due(what + ": needed", x.needed(0) >= 0, ready);
        s.due(what + ": scrub", x.scrub() >= 0, ready);
        s.due(what + ": remove", x.remove(15), ready ? 1 : Probe.CRASHED);
        s.due(what + ": has", x.has(1), ready);
        s.due(what + ": get", x.get(1), ready ? 101 : 0);
        s.due(what + ": put", x.put(1, 101), ready ? 0 : Probe.CRASHED);
    }

    private void readyOrNot() {
        Probe x = Probe.with(4, 4, 1);
        dueReady("after a put", x, true);
        x.crash();
        dueReady("crashed", x, false);
        x.mount();
        dueReady("mounted", x, true);
        x.spoil(15);
        dueReady("with a bad page", x, true);
        x.mount();
        dueReady("mounted with a bad page", x, false);
        x.turn(15, 1);
        dueReady("the page is mended, but nothing was mounted", x, false);
        x.mount();
        dueReady("mounted again", x, true);
    }

    /** Keys 1 and 2 are known to lie on pages 0 and 1 of block 0, and page 2 is the next. */
    private void dueKnown(String what, Probe x) {
        s.due(what + ": has(1)", x.has(1), true);
        s.due(what + ": has(2)", x.has(2), true);
        s.due(what + ": size", x.size(), 2);
        s.due(what + ": needed(0)", x.needed(0), 2);
        s.due(what + ": head", x.head(), 0);
        x.puts(3);
        s.dueWords(what + ": the next record", x, 2, Forge.record(3, 3, 103, 1));
        s.due(what + ": size with it", x.size(), 3);
    }

    private void writtenButBad() {
        Probe x = Probe.with(3, 3, 1, 2);
        x.spoil(0);
        x.spoil(1);
        dueKnown("both bad", x);
        s.due("get", x.get(1), 0);
    }

    private void writtenButBlank() {
        Probe x = Probe.with(3, 3, 1, 2);
        x.erase(0, 1);
        dueKnown("both blank", x);
        s.due("get", x.get(1), 0);
        s.dueWords("page 0 was not taken for a new record", x, 0, Forge.erased());
        Probe y = Probe.with(3, 2, 1, 2);
        y.erase(0, 1);
        y.puts(3);
        s.due("a block of blank pages that are written is not free", y.head(), 1);
        y.puts(4);
        s.due("nor is it counted as free", y.put(5, 5), Probe.FULL);
        s.due("mount forgets them", y.mount(), 2);
        s.due("then it is free", y.put(5, 5), 0);
        s.due("and the lowest", y.head(), 0);
    }

    private void recordNotWritten() {
        Probe x = new Probe(3, 2);
        x.onto(1, Forge.record(9, 2, 102, 1));
        s.due("sound", x.condition(1), Probe.SOUND);
        s.due("has", x.has(2), false);
        s.due("get", x.get(2), 0);
        s.due("size", x.size(), 0);
        s.due("needed", x.needed(0), 0);
        s.due("head", x.head(), -1);
        s.due("remove", x.remove(2), 1);
        x.puts(4, 5);
        s.due("the block was free", x.head(), 0);
        s.dueWords("the page was written", x, 1, Forge.record(2, 5, 105, 1));
    }

    private void writtenThere() {
        Probe x = Probe.with(3, 3, 1);
        x.onto(0, Forge.record(9, 2, 77, 2));
        s.due("KEY as written", x.has(1), true);
        s.due("not as it is", x.has(2), false);
        s.due("KIND as written", x.needed(0), 1);
        s.due("VALUE as it is read", x.get(1), 77);
        x.put(1, 50);
        s.dueWords("NEXT is not made of what is read", x, 1, Forge.record(2, 1, 50, 1));
        s.due("SEQ as written: the newer is the latest", x.get(1), 50);
        Probe y = Probe.with(3, 3, 1);
        y.remove(1);
        y.onto(1, Forge.record(2, 1, 0, 1));
        s.due("removed as written", y.has(1), false);
        s.due("size", y.size(), 0);
        s.due("needed as it was", y.needed(0), 1);
    }

    private void readAtMounting() {
        Probe x = Probe.with(3, 3, 1);
        x.turn(0, 31, 33);
        s.due("mount with wrong bits in SEQ and KEY", x.mount(), 1);
        s.due("KEY as read", x.has(1), true);
        s.due("not as it is", x.has(3), false);
        x.turn(0, 96);
        s.due("a third wrong bit since", x.condition(0), Probe.ROTTEN);
        s.due("has", x.has(1), true);
        s.due("needed", x.needed(0), 1);
        x.puts(2);
        s.due("NEXT by SEQ as read", x.word(1, 0), 2);
        Probe y = Probe.with(3, 3, 1);
        y.remove(1);
        y.turn(1, 96, 97);
        s.due("KIND is 1 as it is", y.word(1, 3), 1);
        s.due("mount with wrong bits in KIND", y.mount(), 0);
        s.due("KIND as read", y.has(1), false);
        y.onto(1, Forge.record(2, 1, 5, 1));
        s.due("whatever became of it", y.has(1), false);
        s.due("until it is mounted", y.mount(), 1);
        s.due("get", y.get(1), 5);
    }

    /** Scrub writes the bits of a page; what is known of it stays, here and in the next three. */
    private void scrubbedAsAnotherRecord() {
        Probe x = Probe.with(3, 3, 1);
        x.onto(0, Forge.turned(Forge.record(9, 2, 77, 2), 5));
        s.due("scrub of a page that reads as another record", x.scrub(), 1);
        s.dueWords("it is written as read", x, 0, Forge.record(9, 2, 77, 2));
        s.due("KEY and KIND known as before", x.has(1), true);
        s.due("not as read", x.has(2), false);
        s.due("size", x.size(), 1);
        s.due("needed", x.needed(0), 1);
        x.put(1, 50);
        s.due("NEXT as before", x.word(1, 0), 2);
        s.due("SEQ known as before", x.get(1), 50);
        Probe y = Probe.with(3, 2, 1, 2, 2, 3);
        y.onto(0, Forge.turned(Forge.record(9, 5, 77, 2), 5));
        y.scrub();
        y.puts(4);
        s.dueWords("a cleaning copies what scrub wrote", y, 4, Forge.record(9, 5, 77, 2));
        s.due("of the key that was known before", y.has(1), true);
        s.due("not of the one that scrub wrote", y.has(5), false);
        s.due("with its VALUE as read", y.get(1), 77);
    }

    private void scrubbedAsErased() {
        Probe x = Probe.with(3, 3, 1);
        x.onto(0, Forge.turned(Forge.erased(), 9));
        s.due("scrub of a written page that reads as blank", x.scrub(), 1);
        s.dueWords("it is written as erased", x, 0, Forge.erased());
        s.due("it is known as before", x.has(1), true);
        s.due("needed", x.needed(0), 1);
        x.puts(2);
        s.dueWords("and written as before", x, 1, Forge.record(2, 2, 102, 1));
    }

    private void scrubbedButNotWritten() {
        Probe x = new Probe(3, 3);
        x.onto(0, Forge.turned(Forge.record(9, 2, 77, 1), 5));
        s.due("scrub of a page that was not written", x.scrub(), 1);
        s.due("it is not known", x.has(2), false);
        s.due("nor needed", x.needed(0), 0);
        x.puts(3);
        s.dueWords("nor written", x, 0, Forge.record(1, 3, 103, 1));
        Probe y = Probe.with(3, 2, 1);
        for (int p = 1; p < y.pages(); p++) {
            y.turn(p, p, 177);
        }
        s.due("scrub of blank pages that were not written", y.scrub(), 5);
        s.due("head", y.head(), 0);
        y.puts(2);
        s.dueWords("the one in the head is the next", y, 1, Forge.record(2, 2, 102, 1));
        y.puts(3);
        s.due("the blocks of the others are free", y.head(), 1);
        s.due("no cleaning: five pages scrubbed, three written", y.acts(), 8);
    }

    private void scrubbedAndMounted() {
        Probe x = Probe.with(3, 3, 1);
        x.onto(0, Forge.turned(Forge.record(9, 2, 77, 1), 5));
        x.onto(3, Forge.turned(Forge.record(4, 6, 66, 1), 5));
        s.due("scrub", x.scrub(), 2);
        s.due("only mounting finds what scrub wrote", x.mount(), 2);
        s.due("the key that was known", x.has(1), false);
        s.due("a key that scrub wrote", x.get(2), 77);
        s.due("where nothing was written", x.get(6), 66);
        x.puts(3);
        s.due("NEXT by what scrub wrote", x.word(1, 0), 10);
    }

    /** Mounted with two records of key 1 in the head: VALUE 101 on page 0, VALUE 102 on page 1. */
    private static Probe twoOfKey(int seq0, int seq1) {
        Probe x = new Probe(3, 4);
        x.put(1, 101);
        x.put(1, 102);
        x.onto(0, Forge.record(seq0, 1, 101, 1));
        x.onto(1, Forge.record(seq1, 1, 102, 1));
        x.mount();
        return x;
    }

    private void greatestSeq() {
        Probe x = new Probe(3, 4);
        s.due("no record", x.has(1), false);
        x.put(1, 10);
        s.due("one record", x.get(1), 10);
        x.put(1, 11);
        x.put(2, 22);
        s.due("two records", x.get(1), 11);
        s.due("a greater SEQ on a lower page", twoOfKey(7, 6).get(1), 101);
        s.due("on a higher page", twoOfKey(6, 7).get(1), 102);
        Probe y = Probe.with(3, 2, 1, 2, 1);
        y.erase(1);
        s.due("mount", y.mount(), 1);
        s.due("an older record lies in the head", y.head(), 0);
        s.due("a greater SEQ outside of the head", y.needed(1), 1);
        s.due("the one in the head is not the latest", y.needed(0), 0);
    }

    private void greatestSeqOfInts() {
        int[][] less = {{-1, 0}, {-2, -1}, {LEAST, -1}, {LEAST, 0}, {LEAST, GREATEST}, {-1, GREATEST},
            {LEAST, LEAST + 1}, {GREATEST - 1, GREATEST}, {-2000000000, 2000000000}};
        for (int[] c : less) {
            s.due(c[0] + " and " + c[1], twoOfKey(c[0], c[1]).get(1), 102);
            s.due(c[1] + " and " + c[0], twoOfKey(c[1], c[0]).get(1), 101);
        }
    }

    private void headGoesBefore() {
        int[] seqs = {1, -1, GREATEST, LEAST};
        for (int seq : seqs) {
            Probe x = Probe.with(3, 2, 1, 2);
            x.put(1, 30);
            x.onto(0, Forge.record(seq, 1, 101, 1));
            x.onto(2, Forge.record(seq, 1, 30, 1));
            s.due("mount", x.mount(), 2);
            s.due("head", x.head(), 1);
            s.due("SEQ " + seq + ": the one in the head", x.get(1), 30);
            s.due("the other is not needed", x.needed(0), 1);
            s.due("the one in the head is", x.needed(1), 1);
        }
        Probe y = Probe.with(3, 2, 1, 2);
        y.put(1, 30);
        y.onto(2, Forge.record(1, 1, 30, 2));
        s.due("KIND 2 in the head, KIND 1 outside", y.mount(), 1);
        s.due("has", y.has(1), false);
        Probe z = Probe.with(3, 2, 1, 2);
        z.put(1, 30);
        z.onto(2, Forge.record(1, 1, 30, 1));
        z.mount();
        z.puts(3);
        s.due("a head that is full is still the head", z.get(1), 30);
    }

    private void lowestPageThen() {
        s.due("both in the head", twoOfKey(5, 5).get(1), 101);
        s.due("both in the head, SEQ below 0", twoOfKey(-5, -5).get(1), 101);
        Probe x = Probe.with(3, 2, 1, 2);
        x.put(1, 30);
        x.puts(3);
        x.onto(2, Forge.record(1, 1, 30, 1));
        s.due("mount", x.mount(), 3);
        s.due("no head", x.head(), -1);
        s.due("the lowest page", x.get(1), 101);
        s.due("needed", x.needed(0) * 10 + x.needed(1), 21);
        Probe y = Probe.with(4, 2, 1, 2);
        y.put(1, 30);
        y.puts(3, 4);
        y.onto(2, Forge.record(1, 1, 30, 1));
        s.due("mount", y.mount(), 4);
        s.due("the head has no such key", y.head(), 2);
        s.due("the lowest page", y.get(1), 101);
    }

    private void heldByKind() {
        Probe x = new Probe(3, 4);
        s.due("no record", x.has(0), false);
        x.put(0, 0);
        s.due("KIND 1, VALUE 0", x.has(0), true);
        x.remove(0);
        s.due("KIND 2", x.has(0), false);
        s.due("size", x.size(), 0);
        x.put(0, 1);
        s.due("KIND 1 after KIND 2", x.has(0), true);
        s.due("size", x.size(), 1);
        Probe y = new Probe(3, 4);
        y.onto(0, Forge.record(1, 5, -1, 2));
        s.due("KIND 2 alone: mount", y.mount(), 0);
        s.due("has", y.has(5), false);
    }

    private void neededValue() {
        Probe x = Probe.with(3, 3, 1);
        s.due("KIND 1 alone", x.needed(0), 1);
        x.puts(1);
        s.due("the latest of two", x.needed(0), 1);
        x.puts(2);
        s.due("of two keys", x.needed(0), 2);
        x.puts(1);
        s.due("no longer the latest", x.needed(0), 1);
        s.due("the latest", x.needed(1), 1);
        s.due("a free block", x.needed(2), 0);
        s.due("of the same SEQ just one is the latest", twoOfKey(5, 5).needed(0), 1);
    }

    private void neededRemoval() {
        Probe x = Probe.with(3, 3, 1);
        x.remove(1);
        s.due("KIND 2 and the older value in its block", x.needed(0), 1);
        x.puts(2, 3);
        x.remove(2);
        s.due("the older value in another block", x.needed(1), 2);
        s.due("the older values are not needed", x.needed(0), 1);
        Probe y = new Probe(3, 2);
        y.onto(0, Forge.record(7, 1, -1, 2));
        y.mount();
        s.due("KIND 2 alone", y.needed(0), 0);
        y.puts(1);
        s.due("KIND 2 that is older", y.needed(0), 1);
        Probe z = Probe.with(3, 2, 1);
        z.remove(1);
        z.onto(0, Forge.record(1, 1, 101, 2));
        s.due("two of KIND 2: mount", z.mount(), 0);
        s.due("the latest of them", z.needed(0), 1);
    }

    private void headOrNone() {
        Probe x = new Probe(3, 2);
        s.due("none", x.head(), -1);
        x.puts(1);
        s.due("the first block", x.head(), 0);
        x.puts(1);
        s.due("all its pages are written", x.head(), 0);
        x.puts(1, 1, 1);
        s.due("the last block", x.head(), 2);
        x.puts(1);
        x.mount();
        s.due("none again", x.head(), -1);
    }

    private void nextWrapsRound() {
        Probe x = Probe.with(3, 4, 1);
        x.onto(0, Forge.record(GREATEST - 1, 1, 101, 1));
        x.mount();
        x.put(2, 20);
        s.dueWords("the greatest int", x, 1, Forge.record(GREATEST, 2, 20, 1));
        x.put(2, 30);
        s.dueWords("the least after it", x, 2, Forge.record(LEAST, 2, 30, 1));
        s.due("it is not greater", x.get(2), 20);
        x.put(3, 40);
        s.dueWords("and on", x, 3, Forge.record(LEAST + 1, 3, 40, 1));
        s.due("remove appends one that is not the latest", x.remove(2), 0);
        s.due("so it is held still", x.has(2), true);
        s.due("mount", x.mount(), 3);
        x.put(4, 50);
        s.dueWords("NEXT wraps round at mounting", x, 5, Forge.record(LEAST, 4, 50, 1));
    }

    private void freeBlocks() {
        Probe x = new Probe(3, 2);
        x.onto(1, Forge.record(-1, 1, -1, 1));
        x.onto(3, Forge.record(-2, 2, -1, 1));
        s.due("mount with the last pages of two blocks written", x.mount(), 2);
        s.due("head", x.head(), 0);
        x.puts(3, 4);
        s.due("one block was free: a copy, an erasing and two writings", x.acts(), 4);
        s.dueWords("a block of one written page is not free: it was cleaned", x, 4, Forge.record(-2, 2, -1, 1));
        s.dueWords("and erased", x, 3, Forge.erased());
        s.due("head", x.head(), 2);
        Probe y = Probe.with(3, 2, 1, 2);
        y.spoil(2);
        y.spoil(3);
        y.puts(3);
        s.due("a block of pages that are bad and not written is free", y.head(), 1);
        s.dueWords("and written", y, 2, Forge.record(3, 3, 103, 1));
    }
}
