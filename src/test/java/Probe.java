/** A store that is asked for no more than the 512 calls for which the document says what is due. */
final class Probe {
    static final int BLANK = 0;
    static final int SOUND = 1;
    static final int MENDED = 2;
    static final int ROTTEN = 3;
    static final int FULL = -1;
    static final int CRASHED = -2;
    static final int BAD = -3;
    private static final int MOST_CALLS = 512;

    final int blocks;
    final int blockPages;
    private final BitRotStore store;
    private int calls;

    /** Takes only numbers that the document does not change: 3 .. 5 blocks of 2 .. 4 pages. */
    Probe(int blocks, int blockPages) {
        this.blocks = blocks;
        this.blockPages = blockPages;
        store = new BitRotStore(blocks, blockPages);
    }

    /** A store to which each key was put in turn, with a value of 100 more. */
    static Probe with(int blocks, int blockPages, int... keys) {
        Probe x = new Probe(blocks, blockPages);
        x.puts(keys);
        return x;
    }

    int pages() {
        return blocks * blockPages;
    }

    int callsLeft() {
        return MOST_CALLS - calls;
    }

    void puts(int... keys) {
        for (int key : keys) {
            if (put(key, 100 + key) != 0) {
                throw new IllegalStateException("put(" + key + ") was not done");
            }
        }
    }

    void turn(int p, int... bits) {
        for (int i : bits) {
            if (!rot(p, i)) {
                throw new IllegalStateException("rot(" + p + ", " + i + ") was not done");
            }
        }
    }

    int[] words(int p) {
        int[] words = new int[Forge.WORDS];
        for (int k = 0; k < Forge.WORDS; k++) {
            words[k] = word(p, k);
        }
        return words;
    }

    /** Turns round just the bits of page p in which it differs from the words. */
    void onto(int p, int[] words) {
        int[] now = words(p);
        for (int i = 0; i < Forge.PAGE_BITS; i++) {
            if (((now[i / 32] ^ words[i / 32]) >> (i % 32) & 1) == 1) {
                turn(p, i);
            }
        }
    }

    void erase(int... pages) {
        for (int p : pages) {
            onto(p, Forge.erased());
        }
    }

    /** Three wrong bits, so that the page is bad. */
    void spoil(int p) {
        turn(p, 1, 2, 3);
    }

    /** Makes the store crashed without a change of the flash; a page's bit is turned and turned back for it. */
    void crash() {
        rot(0, 0);
        arm(0);
        if (scrub() != CRASHED) {
            throw new IllegalStateException("scrub() did not crash");
        }
        rot(0, 0);
    }

    /** All that can be seen of the store: of each page its words and condition, and every answer there is. */
    int[] all() {
        int[] seen = new int[pages() * 7 + 16 * 2 + blocks + 4];
        int n = 0;
        for (int p = 0; p < pages(); p++) {
            for (int k = 0; k < Forge.WORDS; k++) {
                seen[n++] = word(p, k);
            }
            seen[n++] = condition(p);
        }
        for (int key = 0; key < 16; key++) {
            seen[n++] = has(key) ? 1 : 0;
            seen[n++] = get(key);
        }
        for (int b = 0; b < blocks; b++) {
            seen[n++] = needed(b);
        }
        seen[n++] = size();
        seen[n++] = head();
        seen[n++] = crashed() ? 1 : 0;
        seen[n++] = acts();
        return seen;
    }

    void init() {
        asked().init();
    }

    int mount() {
        return asked().mount();
    }

    int put(int key, int value) {
        return asked().put(key, value);
    }

    int remove(int key) {
        return asked().remove(key);
    }

    boolean has(int key) {
        return asked().has(key);
    }

    int get(int key) {
        return asked().get(key);
    }

    int size() {
        return asked().size();
    }

    boolean rot(int p, int i) {
        return asked().rot(p, i);
    }

    int scrub() {
        return asked().scrub();
    }

    boolean arm(int n) {
        return asked().arm(n);
    }

    boolean crashed() {
        return asked().crashed();
    }

    int condition(int p) {
        return asked().condition(p);
    }

    int word(int p, int k) {
        return asked().word(p, k);
    }

    int needed(int b) {
        return asked().needed(b);
    }

    int head() {
        return asked().head();
    }

    int acts() {
        return asked().acts();
    }

    private BitRotStore asked() {
        calls++;
        if (calls > MOST_CALLS) {
            throw new IllegalStateException("the test asks more than " + MOST_CALLS + " calls of one object");
        }
        return store;
    }
}
