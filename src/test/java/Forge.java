import java.math.BigInteger;

/** Makes the words of pages by the document's formulas, and turns bits until a page has given words. */
final class Forge {
    static final int WORDS = 6;
    static final int PAGE_BITS = 178;
    private static final BigInteger GENERATOR = BigInteger.valueOf(300489);

    private Forge() {
    }

    static int check(int seq, int key, int value, int kind) {
        int h = ((seq * 31 + key) * 31 + value) * 31 + kind;
        return h ^ (h >>> 15);
    }

    /** The long division of the document, digit by digit. */
    static int parity(int[] words) {
        BigInteger rest = BigInteger.ZERO;
        for (int i = 0; i < 160; i++) {
            if ((words[i / 32] >> (i % 32) & 1) == 1) {
                rest = rest.setBit(i + 18);
            }
        }
        for (int degree = rest.bitLength() - 1; degree >= 18; degree--) {
            if (rest.testBit(degree)) {
                rest = rest.xor(GENERATOR.shiftLeft(degree - 18));
            }
        }
        return rest.intValueExact();
    }

    static int[] record(int seq, int key, int value, int kind) {
        return withCheck(seq, key, value, kind, check(seq, key, value, kind));
    }

    static int[] withCheck(int seq, int key, int value, int kind, int check) {
        int[] words = {seq, key, value, kind, check, 0};
        words[5] = parity(words);
        return words;
    }

    static int[] erased() {
        return new int[] {-1, -1, -1, -1, -1, (1 << 18) - 1};
    }

    static int[] turned(int[] words, int... bits) {
        int[] result = words.clone();
        for (int i : bits) {
            result[i / 32] ^= 1 << (i % 32);
        }
        return result;
    }

    static int[] wordsOf(BitRotStore x, int p) {
        int[] words = new int[WORDS];
        for (int k = 0; k < WORDS; k++) {
            words[k] = x.word(p, k);
        }
        return words;
    }

    /** Turns round just the bits of page p in which it differs from the words. */
    static void onto(BitRotStore x, int p, int[] words) {
        int[] now = wordsOf(x, p);
        for (int i = 0; i < PAGE_BITS; i++) {
            if (((now[i / 32] ^ words[i / 32]) >> (i % 32) & 1) == 1) {
                x.rot(p, i);
            }
        }
    }
}
