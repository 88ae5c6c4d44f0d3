import java.util.Arrays;

/**
 * A map from keys 0 .. 15 to ints that is kept as a log on the pages of a flash whose bits may turn round.
 * The flash is all that outlives a power failure: {@link #mount()} finds the map again from its pages alone.
 */
public final class BitRotStore {
    public static final int CRASHED = -2;
    public static final int FULL = -1;
    public static final int BAD = -3;

    private static final int DONE = 0;
    private static final int NOT_HELD = 1;
    private static final int BAD_PAGE_FOUND = -1;
    private static final int NONE = -1;

    private static final int KEYS = 16;
    private static final int KIND_VALUE = 1;
    private static final int KIND_REMOVED = 2;

    private static final int SEQ = 0;
    private static final int KEY = 1;
    private static final int VALUE = 2;
    private static final int KIND = 3;
    private static final int CHECK = 4;
    private static final int PARITY = 5;
    private static final int WORDS = 6;

    private static final int WORD_BITS = 32;
    private static final int DATA_BITS = PARITY * WORD_BITS;
    private static final int PARITY_BITS = 18;
    private static final int PAGE_BITS = DATA_BITS + PARITY_BITS;
    private static final int PARITY_MASK = (1 << PARITY_BITS) - 1;

    private static final int BLANK = 0;
    private static final int SOUND = 1;
    private static final int MENDED = 2;
    private static final int ROTTEN = 3;
    private static final int ZEROS_OF_BLANK = 2;

    private final Flash flash;
    private final Log log;
    private boolean ready;
    private boolean failed;
    private boolean armed;
    private int actsLeft;
    private int actsDone;

    public BitRotStore(int blocks, int pages) {
        int blockCount = Math.max(3, Math.min(5, blocks));
        int blockPages = Math.max(2, Math.min(4, pages));
        flash = new Flash(blockCount * blockPages);
        log = new Log(blockCount, blockPages);
        init();
    }

    public void init() {
        powerUp();
        flash.erasePages(0, flash.pageCount);
        log.forgetAll();
        ready = true;
    }

    public int mount() {
        powerUp();
        ready = findPages();
        if (!ready) {
            return BAD_PAGE_FOUND;
        }
        log.findHead();
        if (log.freeBlocks() == 0) {
            clean();
        }
        return log.heldKeys();
    }

    public int put(int key, int value) {
        if (!isKey(key)) {
            return BAD;
        }
        return ready ? append(key, value, KIND_VALUE) : CRASHED;
    }

    public int remove(int key) {
        if (!isKey(key)) {
            return BAD;
        }
        if (!ready) {
            return CRASHED;
        }
        return log.isHeld(key) ? append(key, 0, KIND_REMOVED) : NOT_HELD;
    }

    public boolean has(int key) {
        return ready && log.isHeld(key);
    }

    public int get(int key) {
        if (!ready || !log.isHeld(key)) {
            return 0;
        }
        return isReadable(flash.readPage(log.latest(key))) ? flash.seen[VALUE] : 0;
    }

    public int size() {
        return ready ? log.heldKeys() : CRASHED;
    }

    public boolean rot(int p, int i) {
        if (!flash.isPage(p) || i < 0 || i >= PAGE_BITS) {
            return false;
        }
        flash.turnBit(p, i);
        return true;
    }

    public int scrub() {
        if (!ready) {
            return CRASHED;
        }
        int scrubbed = 0;
        for (int p = 0; p < flash.pageCount; p++) {
            if (flash.loadFresh(p)) {
                if (!mayAct()) {
                    return CRASHED;
                }
                flash.writeSeen(p);
                scrubbed++;
            }
        }
        return scrubbed;
    }

    public boolean arm(int n) {
        if (n < 0) {
            return false;
        }
        armed = true;
        actsLeft = n;
        return true;
    }

    public boolean crashed() {
        return failed;
    }

    public int condition(int p) {
        return flash.isPage(p) ? flash.readPage(p) : BAD;
    }

    public int word(int p, int k) {
        return flash.isPage(p) && k >= 0 && k < WORDS ? flash.cells[p * WORDS + k] : 0;
    }

    public int needed(int b) {
        if (b < 0 || b >= log.blockCount) {
            return BAD;
        }
        if (!ready) {
            return CRASHED;
        }
        log.markNeeded();
        return log.markedPages(b);
    }

    public int head() {
        return ready ? log.headBlock : CRASHED;
    }

    public int acts() {
        return actsDone;
    }

    private static boolean isKey(int key) {
        return key >= 0 && key < KEYS;
    }

    private static boolean isReadable(int condition) {
        return condition == SOUND || condition == MENDED;
    }

    private void powerUp() {
        failed = false;
        armed = false;
        actsLeft = 0;
    }

    /** Counts the act that is about to happen; when it may not happen, the power fails instead. */
    private boolean mayAct() {
        if (armed && actsLeft == 0) {
            failed = true;
            ready = false;
            return false;
        }
        if (armed) {
            actsLeft--;
        }
        actsDone++;
        return true;
    }

    /** Answers false when a page is bad: what the log knows then is of no use. */
    private boolean findPages() {
        log.forgetAll();
        for (int p = 0; p < flash.pageCount; p++) {
            int condition = flash.readPage(p);
            if (condition == ROTTEN) {
                return false;
            }
            if (condition != BLANK) {
                log.know(p, flash.seen[SEQ], flash.seen[KEY], flash.seen[KIND]);
            }
        }
        log.findNext();
        return true;
    }

    private int append(int key, int value, int kind) {
        int outcome = log.openHead(2) ? DONE : clean();
        if (outcome == DONE) {
            flash.loadRecord(log.next, key, value, kind);
            outcome = writeToHead(log.next, key, kind);
        }
        if (outcome == DONE) {
            log.next++;
        }
        return outcome;
    }

    private int clean() {
        int chosen = log.chooseBlock();
        if (chosen == NONE || !log.openHead(1)) {
            return FULL;
        }
        int first = chosen * log.blockPages;
        int end = first + log.blockPages;
        for (int p = first; p < end; p++) {
            // Moving the head and each copy change what is needed: the marks are those of the choice.
            if (log.marked[p]) {
                flash.readPage(p);
                int outcome = writeToHead(log.seq[p], log.key[p], log.kind[p]);
                if (outcome != DONE) {
                    return outcome;
                }
            }
        }
        if (!mayAct()) {
            return CRASHED;
        }
        flash.erasePages(first, end);
        log.forgetBlock(chosen);
        return DONE;
    }

    /** Writes what the flash has loaded; what the log is to know of it may differ from rotten words. */
    private int writeToHead(int seq, int key, int kind) {
        int p = log.headGap();
        if (p == NONE) {
            return FULL;
        }
        if (!mayAct()) {
            return CRASHED;
        }
        flash.writeSeen(p);
        log.know(p, seq, key, kind);
        return DONE;
    }

    /** The pages as they are, with one row of words through which all pages are read and written. */
    private static final class Flash {
        final int pageCount;
        final int[] cells;
        final int[] seen = new int[WORDS];
        private final Code code = new Code();

        Flash(int pageCount) {
            this.pageCount = pageCount;
            cells = new int[pageCount * WORDS];
        }

        boolean isPage(int p) {
            return p >= 0 && p < pageCount;
        }

        void turnBit(int p, int i) {
            cells[p * WORDS + i / WORD_BITS] ^= 1 << i % WORD_BITS;
        }

        void erasePages(int from, int to) {
            loadErased();
            for (int p = from; p < to; p++) {
                writeSeen(p);
            }
        }

        void writeSeen(int p) {
            System.arraycopy(seen, 0, cells, p * WORDS, WORDS);
        }

        void loadRecord(int seq, int key, int value, int kind) {
            seen[SEQ] = seq;
            seen[KEY] = key;
            seen[VALUE] = value;
            seen[KIND] = kind;
            seen[CHECK] = Code.check(seen);
            seen[PARITY] = code.parity(seen);
        }

        /** Answers the page's condition; loads it as read when it is sound or mended, otherwise as it is. */
        int readPage(int p) {
            loadRaw(p);
            if (seenZeros() <= ZEROS_OF_BLANK) {
                return BLANK;
            }
            int condition = code.mend(seen);
            if (isReadable(condition) && !isRecord()) {
                // Mending may have turned bits that belong to no record: they must not be copied.
                loadRaw(p);
                return ROTTEN;
            }
            return condition;
        }

        /** Answers whether the page wants writing anew, and then has loaded what is to be written. */
        boolean loadFresh(int p) {
            int condition = readPage(p);
            if (condition == BLANK && seenZeros() > 0) {
                loadErased();
                return true;
            }
            return condition == MENDED;
        }

        private void loadRaw(int p) {
            System.arraycopy(cells, p * WORDS, seen, 0, WORDS);
        }

        private void loadErased() {
            Arrays.fill(seen, -1);
            seen[PARITY] = PARITY_MASK;
        }

        private int seenZeros() {
            int zeros = PAGE_BITS;
            for (int k = 0; k < WORDS; k++) {
                zeros -= Integer.bitCount(seen[k]);
            }
            return zeros;
        }

        private boolean isRecord() {
            return seen[CHECK] == Code.check(seen)
                && isKey(seen[KEY])
                && (seen[KIND] == KIND_VALUE || seen[KIND] == KIND_REMOVED);
        }
    }

    /**
     * The code of a page's words. Each bit stands for a power of x; a page is sound when the sum of its bits'
     * powers leaves no remainder, so the remainder of a page is the sum of those of its wrong bits.
     */
    private static final class Code {
        private static final int GENERATOR = 300489;
        /**
         * GENERATOR is the product of 529 and 601 as polynomials. The powers x^0 .. x^510 leave remainders
         * by 529 that all differ, so such a remainder of nine bits alone tells which bit it may come from.
         */
        private static final int FACTOR = 529;
        private static final int FACTOR_BITS = 9;
        private static final int FACTOR_MASK = (1 << FACTOR_BITS) - 1;

        private final int[] remainderOf = new int[PAGE_BITS];
        private final int[] bitOf = new int[1 << FACTOR_BITS];

        Code() {
            Arrays.fill(bitOf, NONE);
            int remainder = 1;
            for (int exponent = 0; exponent < PAGE_BITS; exponent++) {
                int i = exponent < PARITY_BITS ? DATA_BITS + exponent : exponent - PARITY_BITS;
                remainderOf[i] = remainder;
                bitOf[fold(remainder)] = i;
                remainder = timesX(remainder);
            }
        }

        static int check(int[] words) {
            int h = ((words[SEQ] * 31 + words[KEY]) * 31 + words[VALUE]) * 31 + words[KIND];
            return h ^ h >>> 15;
        }

        int parity(int[] words) {
            return remainder(words, DATA_BITS);
        }

        /** Turns up to two wrong bits round in the words and answers the condition by parity alone. */
        int mend(int[] words) {
            int remainder = remainder(words, PAGE_BITS);
            if (remainder == 0) {
                return SOUND;
            }
            int single = bitWith(remainder);
            if (single != NONE) {
                turn(words, single);
                return MENDED;
            }
            for (int i = 0; i < PAGE_BITS; i++) {
                int other = bitWith(remainder ^ remainderOf[i]);
                if (other != NONE) {
                    turn(words, i);
                    turn(words, other);
                    return MENDED;
                }
            }
            return ROTTEN;
        }

        private int remainder(int[] words, int bits) {
            int remainder = 0;
            for (int i = 0; i < bits; i++) {
                if ((words[i / WORD_BITS] >>> i % WORD_BITS & 1) != 0) {
                    remainder ^= remainderOf[i];
                }
            }
            return remainder;
        }

        private int bitWith(int remainder) {
            int i = bitOf[fold(remainder)];
            return i != NONE && remainderOf[i] == remainder ? i : NONE;
        }

        private static void turn(int[] words, int i) {
            words[i / WORD_BITS] ^= 1 << i % WORD_BITS;
        }

        private static int timesX(int remainder) {
            int product = remainder << 1;
            return (product >>> PARITY_BITS & 1) != 0 ? product ^ GENERATOR : product;
        }

        /** The remainder by FACTOR of a remainder by GENERATOR. */
        private static int fold(int remainder) {
            int rest = remainder;
            for (int degree = PARITY_BITS - 1; degree >= FACTOR_BITS; degree--) {
                if ((rest >>> degree & 1) != 0) {
                    rest ^= FACTOR << degree - FACTOR_BITS;
                }
            }
            return rest & FACTOR_MASK;
        }
    }

    /** What the store knows while it is ready: of each page what was written there, and where to write. */
    private static final class Log {
        final int blockCount;
        final int blockPages;
        final int[] seq;
        final int[] key;
        final int[] kind;
        final boolean[] marked;
        int headBlock;
        int next;
        private final int pageCount;
        private final boolean[] written;

        Log(int blockCount, int blockPages) {
            this.blockCount = blockCount;
            this.blockPages = blockPages;
            pageCount = blockCount * blockPages;
            seq = new int[pageCount];
            key = new int[pageCount];
            kind = new int[pageCount];
            written = new boolean[pageCount];
            marked = new boolean[pageCount];
        }

        void forgetAll() {
            for (int b = 0; b < blockCount; b++) {
                forgetBlock(b);
            }
            headBlock = NONE;
            next = 1;
        }

        void forgetBlock(int b) {
            for (int i = 0; i < blockPages; i++) {
                written[b * blockPages + i] = false;
            }
        }

        void know(int p, int seqThere, int keyThere, int kindThere) {
            written[p] = true;
            seq[p] = seqThere;
            key[p] = keyThere;
            kind[p] = kindThere;
        }

        void findNext() {
            int newest = NONE;
            for (int p = 0; p < pageCount; p++) {
                if (written[p] && (newest == NONE || seq[p] > seq[newest])) {
                    newest = p;
                }
            }
            next = newest == NONE ? 1 : seq[newest] + 1;
        }

        void findHead() {
            headBlock = NONE;
            for (int b = blockCount - 1; b >= 0; b--) {
                if (!isFree(b) && gaps(b) > 0) {
                    headBlock = b;
                }
            }
        }

        boolean isHeld(int wanted) {
            int p = latest(wanted);
            return p != NONE && kind[p] == KIND_VALUE;
        }

        int heldKeys() {
            int held = 0;
            for (int k = 0; k < KEYS; k++) {
                if (isHeld(k)) {
                    held++;
                }
            }
            return held;
        }

        int latest(int wanted) {
            int best = NONE;
            for (int p = 0; p < pageCount; p++) {
                if (written[p] && key[p] == wanted && (best == NONE || rank(p) > rank(best))) {
                    best = p;
                }
            }
            return best;
        }

        /** The marks stay as they are, whatever is written or erased, until they are made again. */
        void markNeeded() {
            for (int p = 0; p < pageCount; p++) {
                marked[p] = written[p] && latest(key[p]) == p && (kind[p] == KIND_VALUE || hasOther(p));
            }
        }

        int markedPages(int b) {
            int count = 0;
            for (int i = 0; i < blockPages; i++) {
                if (marked[b * blockPages + i]) {
                    count++;
                }
            }
            return count;
        }

        int freeBlocks() {
            int free = 0;
            for (int b = 0; b < blockCount; b++) {
                if (isFree(b)) {
                    free++;
                }
            }
            return free;
        }

        /** Answers whether the head has room; one without moves to a free block if there are enough of these. */
        boolean openHead(int enough) {
            if (headGap() == NONE && freeBlocks() >= enough) {
                headBlock = lowestFree();
            }
            return headGap() != NONE;
        }

        int headGap() {
            if (headBlock == NONE) {
                return NONE;
            }
            for (int i = 0; i < blockPages; i++) {
                if (!written[headBlock * blockPages + i]) {
                    return headBlock * blockPages + i;
                }
            }
            return NONE;
        }

        /** Marks what is needed and answers the block to clean, NONE when none is fit for it. */
        int chooseBlock() {
            markNeeded();
            int chosen = fewestMarked();
            if (chosen == NONE || markedPages(chosen) == blockPages) {
                return NONE;
            }
            boolean fits = headGap() == NONE || markedPages(chosen) <= gaps(headBlock);
            return fits ? chosen : NONE;
        }

        private int fewestMarked() {
            int open = headGap() == NONE ? NONE : headBlock;
            int best = NONE;
            for (int b = 0; b < blockCount; b++) {
                if (b != open && !isFree(b) && (best == NONE || markedPages(b) < markedPages(best))) {
                    best = b;
                }
            }
            return best;
        }

        /** Of the pages of a key the latest is the lowest of those with the greatest rank. */
        private long rank(int p) {
            int first = headBlock * blockPages;
            boolean inHead = headBlock != NONE && p >= first && p < first + blockPages;
            return 2L * seq[p] + (inHead ? 1 : 0);
        }

        private boolean hasOther(int p) {
            for (int q = 0; q < pageCount; q++) {
                if (q != p && written[q] && key[q] == key[p]) {
                    return true;
                }
            }
            return false;
        }

        private int lowestFree() {
            for (int b = 0; b < blockCount; b++) {
                if (isFree(b)) {
                    return b;
                }
            }
            return NONE;
        }

        private boolean isFree(int b) {
            return gaps(b) == blockPages;
        }

        private int gaps(int b) {
            int count = 0;
            for (int i = 0; i < blockPages; i++) {
                if (!written[b * blockPages + i]) {
                    count++;
                }
            }
            return count;
        }
    }
}
