import java.util.Random;
import java.util.function.Supplier;

/** The sentences under "Terms" on the flash and its bits, CODE and READING. */
public final class FlashSentencesTest {
    private static final int[] KEYS_IN = {0, 1, 8, 14, 15};
    private static final int[] KEYS_OUT = {-1, 16, 17, 1 << 30, Integer.MIN_VALUE, Integer.MAX_VALUE};
    private static final int[] KINDS_OUT = {0, 3, 4, -1, 1 << 30, Integer.MIN_VALUE, Integer.MAX_VALUE};
    private static final int KEY_BIT = 32;
    private static final int KIND_BIT = 96;
    private static final int CHECK_BIT = 128;

    private final Sentences s = new Sentences("FlashSentencesTest");

    public static void main(String[] args) {
        FlashSentencesTest t = new FlashSentencesTest();
        t.flash();
        t.code();
        t.reading();
        t.s.end();
    }

    private void flash() {
        s.test("THE FLASH has B blocks of P PAGES each; page p lies in block p / P.", this::blocksOfPages);
        s.test("A page has six WORDS (ints): SEQ, KEY, VALUE, KIND, CHECK and PARITY.", this::sixWords);
        s.test("Its BITS are 0 .. 177: bit i is bit i % 32 of word i / 32", this::bits);
        s.test("(so of PARITY only the lowest 18 bits are used; the others are 0 always)", this::unusedBits);
        s.test("A page that is ERASED has all its bits 1.", this::erased);
    }

    private void code() {
        s.test("PARITY is made of the other five words so", this::parity);
        s.test("it leaves a remainder of less than 18 as degree, whose coefficients are the bits of PARITY",
            this::edgesOfParity);
        s.test("CHECK is h ^ h >>> 15 with h = ((SEQ * 31 + KEY) * 31 + VALUE) * 31 + KIND (in ints).",
            this::wrappedCheck);
    }

    private void reading() {
        s.test("BLANK when no more than two of its bits are 0", this::blank);
        s.test("otherwise SOUND when PARITY is as made", this::sound);
        s.test("otherwise MENDED when there are one or two bits that, turned round, make it so", this::mended);
        s.test("(there is at most one such choice; the page is then read as with these turned round",
            this::readAsMended);
        s.test("but stays as it is", this::mendedStays);
        s.test("otherwise BAD.", this::bad);
        s.test("bad too when, as read, CHECK is not as made", this::wrongCheck);
        s.test("KEY not 0 .. 15", this::wrongKey);
        s.test("or KIND not 1 or 2.", this::wrongKind);
        s.test("A page that would be sound or mended is bad too when, as read,", this::wrongOnlyAsRead);
        s.test("KIND 1 is a VALUE of the key, KIND 2 says that it is REMOVED.", this::kinds);
    }

    private void blocksOfPages() {
        for (int blocks = 3; blocks <= 5; blocks++) {
            for (int blockPages = 2; blockPages <= 4; blockPages++) {
                for (int p = 0; p < blocks * blockPages; p++) {
                    pageLiesIn(new Probe(blocks, blockPages), p);
                }
            }
        }
    }

    private void pageLiesIn(Probe x, int p) {
        String name = x.blocks + " blocks of " + x.blockPages + ", page " + p + ": ";
        x.onto(p, Forge.record(-1, 5, -1, 1));
        s.due(name + "mount", x.mount(), 1);
        for (int b = 0; b < x.blocks; b++) {
            s.due(name + "needed(" + b + ")", x.needed(b), b == p / x.blockPages ? 1 : 0);
        }
        s.due(name + "the last page", x.condition(x.pages() - 1), p == x.pages() - 1 ? Probe.SOUND : Probe.BLANK);
        s.due(name + "no page behind it", x.condition(x.pages()), Probe.BAD);
        s.due(name + "no block behind the last", x.needed(x.blocks), Probe.BAD);
    }

    private void sixWords() {
        Probe x = new Probe(3, 2);
        x.put(15, Integer.MIN_VALUE);
        s.due("SEQ", x.word(0, 0), 1);
        s.due("KEY", x.word(0, 1), 15);
        s.due("VALUE", x.word(0, 2), Integer.MIN_VALUE);
        s.due("KIND", x.word(0, 3), 1);
        s.due("CHECK", x.word(0, 4), Forge.check(1, 15, Integer.MIN_VALUE, 1));
        s.due("PARITY", x.word(0, 5), Forge.record(1, 15, Integer.MIN_VALUE, 1)[5]);
        s.due("no seventh", x.word(0, 6), 0);
    }

    private void bits() {
        for (int i = 0; i < Forge.PAGE_BITS; i++) {
            Probe x = new Probe(3, 2);
            s.due("rot(5, " + i + ")", x.rot(5, i), true);
            s.dueWords("bit " + i, x, 5, Forge.turned(Forge.erased(), i));
            s.dueWords("bit " + i + " of the page before", x, 4, Forge.erased());
            s.due("rot(0, " + i + ")", x.rot(0, i), true);
            s.dueWords("bit " + i, x, 0, Forge.turned(Forge.erased(), i));
            s.dueWords("bit " + i + " of the page behind", x, 1, Forge.erased());
        }
        Probe x = new Probe(3, 2);
        s.due("no bit -1", x.rot(0, -1), false);
        s.due("no bit 178", x.rot(0, 178), false);
    }

    private void unusedBits() {
        Probe x = Probe.with(3, 2, 0, 1, 1, 2);
        for (int i = 178; i < 200; i++) {
            s.due("rot(4, " + i + ")", x.rot(4, i), false);
        }
        s.due("erased", x.word(4, 5), 0x3FFFF);
        for (int i = 160; i < 178; i++) {
            x.turn(4, i);
        }
        s.due("all that are used turned round", x.word(4, 5), 0);
        for (int p = 0; p < 4; p++) {
            s.due("of a record", x.word(p, 5) >>> 18, 0);
        }
        x.turn(0, 177);
        x.puts(3);
        s.due("of a copy", x.word(4, 5) >>> 18, 0);
        s.due("of the erased block", x.word(0, 5), 0x3FFFF);
        x.turn(1, 177);
        x.turn(5, 177);
        s.due("scrub", x.scrub(), 2);
        s.due("of a blank page after scrub", x.word(1, 5), 0x3FFFF);
        s.due("of a mended page after scrub", x.word(5, 5) >>> 18, 0);
    }

    private void erased() {
        int[] ones = {-1, -1, -1, -1, -1, 262143};
        Probe x = new Probe(5, 4);
        for (int p = 0; p < x.pages(); p++) {
            s.dueWords("new", x, p, ones);
        }
        x.puts(1, 2);
        x.turn(19, 0, 177);
        x.init();
        for (int p = 0; p < x.pages(); p++) {
            s.dueWords("after init", x, p, ones);
        }
        Probe y = Probe.with(3, 2, 1, 1, 1, 1, 1);
        s.dueWords("the first page of a block that was cleaned", y, 0, ones);
        s.dueWords("the last page of it", y, 1, ones);
        y.turn(0, 31, 160);
        s.due("scrub", y.scrub(), 1);
        s.dueWords("after scrub", y, 0, ones);
    }

    /** The words due were made by a program in another language. */
    private void parity() {
        int[][] due = {
            {1, 3, 7, 1, 32893, 44979},
            {1, 0, 0, 1, 29792, 111385},
            {1, 0, -1, 1, 29761, 11960},
            {1, 15, Integer.MAX_VALUE, 1, -2147373935, 136705},
            {1, 0, Integer.MIN_VALUE, 1, -2147388320, 155088}};
        for (int[] words : due) {
            Probe x = new Probe(3, 2);
            x.put(words[1], words[2]);
            s.dueWords("put(" + words[1] + ", " + words[2] + ")", x, 0, words);
            s.due("it is read as sound", x.condition(0), Probe.SOUND);
        }
        Probe x = new Probe(3, 2);
        x.put(0, 1);
        x.remove(0);
        s.dueWords("remove(0)", x, 1, new int[] {2, 0, 0, 2, 59585, 239962});
    }

    private void edgesOfParity() {
        int[][] due = {
            {345155, 10729786, 0},
            {209517, 6524756, 1},
            {105512, 3300700, 1 << 17},
            {600799, 18655064, (1 << 18) - 1}};
        for (int[] d : due) {
            Probe x = new Probe(3, 2);
            x.put(0, d[0]);
            s.dueWords("put(0, " + d[0] + ")", x, 0, new int[] {1, 0, d[0], 1, d[1], d[2]});
            s.due("it is read as sound", x.condition(0), Probe.SOUND);
            x.turn(0, 160, 177);
            s.due("it is mended", x.condition(0), Probe.MENDED);
            s.due("and read", x.get(0), d[0]);
        }
    }

    /** With these h is beyond the ints, or below 0 so that >>> and >> differ. */
    private void wrappedCheck() {
        int[][] due = {
            {15, Integer.MAX_VALUE, -2147373935},
            {0, Integer.MIN_VALUE, -2147388320},
            {0, -1, 29761}};
        for (int[] d : due) {
            Probe x = new Probe(3, 2);
            x.put(d[0], d[1]);
            s.due("put(" + d[0] + ", " + d[1] + ")", x.word(0, 4), d[2]);
        }
        int[] seqs = {Integer.MAX_VALUE, Integer.MIN_VALUE, -1, 138547333};
        for (int seq : seqs) {
            Probe x = new Probe(3, 2);
            x.onto(0, Forge.record(seq, 9, -5, 2));
            s.due("SEQ " + seq, x.condition(0), Probe.SOUND);
        }
    }

    private void blank() {
        Probe x = new Probe(3, 2);
        s.due("no bit 0", x.condition(0), Probe.BLANK);
        for (int i = 0; i < Forge.PAGE_BITS; i++) {
            for (int j = 0; j <= i; j++) {
                x = withCalls(x, 5, () -> new Probe(3, 2));
                s.due("bits " + i + " and " + j, conditionWith(x, i, j), Probe.BLANK);
            }
        }
        for (int i = 0; i < Forge.PAGE_BITS; i++) {
            Probe y = new Probe(3, 2);
            y.turn(0, i, (i + 1) % 178, (i + 50) % 178);
            s.due("three bits 0, from " + i, y.condition(0), Probe.ROTTEN);
        }
        Probe z = Probe.with(3, 2, 1);
        z.onto(0, Forge.turned(Forge.erased(), 40, 170));
        s.due("a page that was written", z.condition(0), Probe.BLANK);
    }

    /** A probe with that many calls left: the one there is, or a new one. */
    private static Probe withCalls(Probe x, int calls, Supplier<Probe> maker) {
        return x.callsLeft() >= calls ? x : maker.get();
    }

    /** Turns bits i and j of page 0 round (just one bit when they are the same), reads, and turns them back. */
    private static int conditionWith(Probe x, int i, int j) {
        turnBoth(x, i, j);
        int condition = x.condition(0);
        turnBoth(x, i, j);
        return condition;
    }

    private static void turnBoth(Probe x, int i, int j) {
        x.turn(0, i);
        if (j != i) {
            x.turn(0, j);
        }
    }

    private void sound() {
        for (int key = 0; key < 16; key++) {
            Probe x = new Probe(3, 2);
            x.put(key, key * 0x01234567);
            s.due("put(" + key + ", ..)", x.condition(0), Probe.SOUND);
            x.remove(key);
            s.due("remove(" + key + ")", x.condition(1), Probe.SOUND);
            x.turn(0, key);
            s.due("one wrong bit", x.condition(0), Probe.MENDED);
            x.turn(0, key);
            s.due("none again", x.condition(0), Probe.SOUND);
        }
    }

    private static Probe removed() {
        Probe x = new Probe(3, 2);
        x.onto(0, Forge.record(0x12345678, 6, 0x0F1E2D3C, 2));
        return x;
    }

    private void mended() {
        Probe x = removed();
        for (int i = 0; i < Forge.PAGE_BITS; i++) {
            for (int j = 0; j <= i; j++) {
                x = withCalls(x, 5, FlashSentencesTest::removed);
                s.due("bits " + i + " and " + j, conditionWith(x, i, j), Probe.MENDED);
            }
        }
        s.due("sound without them", withCalls(x, 1, FlashSentencesTest::removed).condition(0), Probe.SOUND);
    }

    /** Were there a second choice of bits, some value here would be another one. */
    private void readAsMended() {
        Probe x = Probe.with(3, 2, 9);
        for (int i = 0; i < Forge.PAGE_BITS; i++) {
            for (int j = 0; j <= i; j++) {
                x = withCalls(x, 5, () -> Probe.with(3, 2, 9));
                turnBoth(x, i, j);
                s.due("get with bits " + i + " and " + j, x.get(9), 109);
                turnBoth(x, i, j);
            }
        }
        Probe y = Probe.with(3, 2, 9);
        y.turn(0, 31, KEY_BIT);
        s.due("mount", y.mount(), 1);
        s.due("KEY as read", y.has(9), true);
        s.due("not as it is", y.has(8), false);
        y.puts(1);
        s.due("SEQ as read", y.word(1, 0), 2);
    }

    private void mendedStays() {
        Probe x = Probe.with(3, 2, 9);
        x.turn(0, 70, 165);
        int[] words = Forge.turned(Forge.record(1, 9, 109, 1), 70, 165);
        s.due("condition", x.condition(0), Probe.MENDED);
        s.dueWords("after condition", x, 0, words);
        s.due("get", x.get(9), 109);
        s.dueWords("after get", x, 0, words);
        s.due("mount", x.mount(), 1);
        s.dueWords("after mount", x, 0, words);
        s.due("a third wrong bit then makes it bad", x.rot(0, 3), true);
        s.due("condition", x.condition(0), Probe.ROTTEN);
    }

    private void bad() {
        Random random = new Random(5);
        for (int n = 0; n < 3000; n++) {
            Probe x = Probe.with(3, 2, 9);
            int i = random.nextInt(178);
            int j = (i + 1 + random.nextInt(100)) % 178;
            int k = (j + 1 + random.nextInt(77)) % 178;
            x.turn(0, i, j);
            s.due("two bits: " + i + ", " + j, x.condition(0), Probe.MENDED);
            if (k != i) {
                x.turn(0, k);
                s.due("three bits: " + i + ", " + j + ", " + k, x.condition(0), Probe.ROTTEN);
            }
        }
        Probe x = new Probe(3, 2);
        x.onto(0, new int[6]);
        s.due("all bits 0", x.condition(0), Probe.ROTTEN);
    }

    /** The condition of page 2 with these words, and of the same with one and two wrong bits. */
    private void dueConditions(String what, int[] words, boolean good) {
        Probe x = new Probe(3, 2);
        x.onto(2, words);
        s.due(what, x.condition(2), good ? Probe.SOUND : Probe.ROTTEN);
        x.turn(2, 90);
        s.due(what + ", one wrong bit", x.condition(2), good ? Probe.MENDED : Probe.ROTTEN);
        x.turn(2, 176);
        s.due(what + ", two wrong bits", x.condition(2), good ? Probe.MENDED : Probe.ROTTEN);
        s.due(what + ", mount", x.mount(), good ? words[3] == 1 ? 1 : 0 : -1);
    }

    private void wrongCheck() {
        int check = Forge.check(1, 9, 77, 1);
        dueConditions("as made", Forge.withCheck(1, 9, 77, 1, check), true);
        for (int i = 0; i < 32; i++) {
            dueConditions("bit " + i + " of CHECK", Forge.withCheck(1, 9, 77, 1, check ^ 1 << i), false);
        }
        dueConditions("SEQ is another", Forge.withCheck(2, 9, 77, 1, check), false);
        dueConditions("VALUE is another", Forge.withCheck(1, 9, 78, 1, check), false);
        dueConditions("KEY is another", Forge.withCheck(1, 8, 77, 1, check), false);
        dueConditions("KIND is another", Forge.withCheck(1, 9, 77, 2, check), false);
    }

    private void wrongKey() {
        for (int key : KEYS_IN) {
            dueConditions("KEY " + key, Forge.record(1, key, 7, 1), true);
        }
        for (int key : KEYS_OUT) {
            dueConditions("KEY " + key, Forge.record(1, key, 7, 1), false);
        }
    }

    private void wrongKind() {
        dueConditions("KIND 1", Forge.record(1, 3, 7, 1), true);
        dueConditions("KIND 2", Forge.record(1, 3, 7, 2), true);
        for (int kind : KINDS_OUT) {
            dueConditions("KIND " + kind, Forge.record(1, 3, 7, kind), false);
        }
    }

    /** One bit is wrong: what it is and what it is read as differ in just the word that is looked at. */
    private void wrongOnlyAsRead() {
        int check = Forge.check(1, 0, 7, 1);
        int[][] pages = {
            {16, 1, check(16, 1), KEY_BIT + 4, Probe.ROTTEN},
            {0, 1, check(0, 1), KEY_BIT + 4, Probe.MENDED},
            {0, 3, check(0, 3), KIND_BIT + 1, Probe.ROTTEN},
            {0, 1, check(0, 1), KIND_BIT + 1, Probe.MENDED},
            {0, 2, check(0, 2), KIND_BIT + 1, Probe.MENDED},
            {0, 1, check ^ 1 << 9, CHECK_BIT + 9, Probe.ROTTEN},
            {0, 1, check, CHECK_BIT + 9, Probe.MENDED}};
        for (int[] c : pages) {
            Probe x = new Probe(3, 2);
            x.onto(0, Forge.turned(Forge.withCheck(1, c[0], 7, c[1], c[2]), c[3]));
            String what = "KEY " + c[0] + ", KIND " + c[1] + ", CHECK " + c[2] + ", bit " + c[3] + " wrong";
            s.due(what, x.condition(0), c[4]);
        }
    }

    private static int check(int key, int kind) {
        return Forge.check(1, key, 7, kind);
    }

    private void kinds() {
        Probe x = Probe.with(3, 2, 4);
        s.due("KIND of put", x.word(0, 3), 1);
        s.due("has", x.has(4), true);
        x.remove(4);
        s.due("KIND of remove", x.word(1, 3), 2);
        s.due("has", x.has(4), false);
        Probe y = new Probe(3, 2);
        y.onto(0, Forge.record(1, 4, 44, 2));
        s.due("KIND 2 with a VALUE: mount", y.mount(), 0);
        s.due("get", y.get(4), 0);
    }
}
