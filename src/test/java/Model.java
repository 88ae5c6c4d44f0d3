import java.util.ArrayList;
import java.util.Arrays;
import java.util.Comparator;
import java.util.List;
import java.util.TreeSet;

/**
 * The document once more, written for the tests alone and in another way than the class: pages are objects,
 * wrong bits are looked for pair by pair, and a power failure is an exception.
 */
final class Model {
    static final int BLANK = 0;
    static final int SOUND = 1;
    static final int MENDED = 2;
    static final int ROTTEN = 3;
    private static final int[] SYNDROME = syndromes();

    private static final class PowerFailed extends RuntimeException {
        private static final long serialVersionUID = 1;
    }

    private static final class NoRoom extends RuntimeException {
        private static final long serialVersionUID = 1;
    }

    private static final class Page {
        final int number;
        final int block;
        int[] words = Forge.erased();
        boolean written;
        int seq;
        int key;
        int kind;

        Page(int number, int block) {
            this.number = number;
            this.block = block;
        }

        void know(int newSeq, int newKey, int newKind) {
            written = true;
            seq = newSeq;
            key = newKey;
            kind = newKind;
        }
    }

    /** What reading finds; words are null when the page is blank or bad. */
    private static final class Reading {
        final int condition;
        final int[] words;

        Reading(int condition, int[] words) {
            this.condition = condition;
            this.words = words;
        }
    }

    final int blocks;
    final int blockPages;
    private final List<Page> pages = new ArrayList<>();
    private boolean ready;
    private boolean crashed;
    private long allowed;
    private int acts;
    private int head;
    private int next;
    int cleanings;

    Model(int blocks, int pagesOfBlock) {
        this.blocks = blocks < 3 ? 3 : blocks > 5 ? 5 : blocks;
        this.blockPages = pagesOfBlock < 2 ? 2 : pagesOfBlock > 4 ? 4 : pagesOfBlock;
        for (int p = 0; p < this.blocks * blockPages; p++) {
            pages.add(new Page(p, p / blockPages));
        }
        init();
    }

    int pageCount() {
        return pages.size();
    }

    int[] wordsOf(int p) {
        return pages.get(p).words.clone();
    }

    boolean isReady() {
        return ready;
    }

    void init() {
        for (Page page : pages) {
            page.words = Forge.erased();
            page.written = false;
        }
        allowed = Long.MAX_VALUE;
        ready = true;
        crashed = false;
        head = -1;
        next = 1;
    }

    int mount() {
        crashed = false;
        allowed = Long.MAX_VALUE;
        ready = pages.stream().noneMatch(page -> read(page.words).condition == ROTTEN);
        if (!ready) {
            return -1;
        }
        for (Page page : pages) {
            Reading reading = read(page.words);
            page.written = false;
            if (reading.condition != BLANK) {
                page.know(reading.words[0], reading.words[1], reading.words[3]);
            }
        }
        next = pages.stream().filter(page -> page.written).mapToInt(page -> page.seq).max().orElse(0) + 1;
        head = -1;
        for (int b = 0; b < blocks && head == -1; b++) {
            if (writtenIn(b) > 0 && writtenIn(b) < blockPages) {
                head = b;
            }
        }
        if (freeBlocks().isEmpty()) {
            try {
                clean();
            } catch (NoRoom full) {
                // A mounting may do without the cleaning.
            }
        }
        return size();
    }

    int put(int key, int value) {
        if (key < 0 || key > 15) {
            return -3;
        }
        return ready ? append(key, value, 1) : -2;
    }

    int remove(int key) {
        if (key < 0 || key > 15) {
            return -3;
        }
        if (!ready) {
            return -2;
        }
        return has(key) ? append(key, 0, 2) : 1;
    }

    boolean has(int key) {
        return ready && latest(key) != null && latest(key).kind == 1;
    }

    int get(int key) {
        if (!has(key)) {
            return 0;
        }
        int[] words = read(latest(key).words).words;
        return words == null ? 0 : words[2];
    }

    int size() {
        if (!ready) {
            return -2;
        }
        int held = 0;
        for (int key = 0; key < 16; key++) {
            held += has(key) ? 1 : 0;
        }
        return held;
    }

    boolean rot(int p, int i) {
        if (p < 0 || p >= pages.size() || i < 0 || i > 177) {
            return false;
        }
        pages.get(p).words = Forge.turned(pages.get(p).words, i);
        return true;
    }

    int scrub() {
        if (!ready) {
            return -2;
        }
        int count = 0;
        try {
            for (Page page : pages) {
                Reading reading = read(page.words);
                int[] fresh = reading.condition == BLANK ? Forge.erased() : reading.words;
                if (fresh != null && !Arrays.equals(fresh, page.words)) {
                    act();
                    page.words = fresh;
                    count++;
                }
            }
        } catch (PowerFailed failed) {
            return -2;
        }
        return count;
    }

    boolean arm(int n) {
        if (n < 0) {
            return false;
        }
        allowed = n;
        return true;
    }

    boolean crashed() {
        return crashed;
    }

    int condition(int p) {
        return p < 0 || p >= pages.size() ? -3 : read(pages.get(p).words).condition;
    }

    int word(int p, int k) {
        return p < 0 || p >= pages.size() || k < 0 || k > 5 ? 0 : pages.get(p).words[k];
    }

    int needed(int b) {
        if (b < 0 || b >= blocks) {
            return -3;
        }
        return ready ? neededOf(b).size() : -2;
    }

    int head() {
        return ready ? head : -2;
    }

    int acts() {
        return acts;
    }

    private void act() {
        if (allowed == 0) {
            crashed = true;
            ready = false;
            throw new PowerFailed();
        }
        allowed--;
        acts++;
    }

    private int append(int key, int value, int kind) {
        try {
            if (head == -1 || writtenIn(head) == blockPages) {
                if (freeBlocks().size() >= 2) {
                    head = freeBlocks().first();
                } else {
                    clean();
                }
            }
            Page page = gapsOf(head).get(0);
            act();
            page.words = Forge.record(next, key, value, kind);
            page.know(next, key, kind);
            next++;
            return 0;
        } catch (NoRoom full) {
            return -1;
        } catch (PowerFailed failed) {
            return -2;
        }
    }

    private void clean() {
        boolean headOpen = head != -1 && writtenIn(head) < blockPages;
        int chosen = -1;
        for (int b = 0; b < blocks; b++) {
            boolean may = writtenIn(b) > 0 && !(headOpen && b == head);
            if (may && (chosen == -1 || neededOf(b).size() < neededOf(chosen).size())) {
                chosen = b;
            }
        }
        if (chosen == -1 || neededOf(chosen).size() == blockPages) {
            throw new NoRoom();
        }
        if (headOpen ? gapsOf(head).size() < neededOf(chosen).size() : freeBlocks().isEmpty()) {
            throw new NoRoom();
        }
        List<Page> moving = neededOf(chosen);
        if (!headOpen) {
            head = freeBlocks().first();
        }
        cleanings++;
        for (Page from : moving) {
            Page to = gapsOf(head).get(0);
            int[] words = read(from.words).words;
            act();
            to.words = words == null ? from.words.clone() : words;
            to.know(from.seq, from.key, from.kind);
        }
        act();
        for (Page page : pagesOf(chosen)) {
            page.words = Forge.erased();
            page.written = false;
        }
    }

    private List<Page> pagesOf(int b) {
        return pages.subList(b * blockPages, (b + 1) * blockPages);
    }

    private List<Page> gapsOf(int b) {
        List<Page> gaps = new ArrayList<>(pagesOf(b));
        gaps.removeIf(page -> page.written);
        return gaps;
    }

    private int writtenIn(int b) {
        return blockPages - gapsOf(b).size();
    }

    private TreeSet<Integer> freeBlocks() {
        TreeSet<Integer> free = new TreeSet<>();
        for (int b = 0; b < blocks; b++) {
            if (writtenIn(b) == 0) {
                free.add(b);
            }
        }
        return free;
    }

    private Page latest(int key) {
        Comparator<Page> order = Comparator.comparingInt((Page page) -> page.seq).reversed()
            .thenComparing(page -> page.block == head ? 0 : 1)
            .thenComparing(page -> page.number);
        return pages.stream().filter(page -> page.written && page.key == key).min(order).orElse(null);
    }

    private List<Page> neededOf(int b) {
        List<Page> needed = new ArrayList<>();
        for (Page page : pagesOf(b)) {
            long others = pages.stream().filter(q -> q != page && q.written && q.key == page.key).count();
            if (page.written && latest(page.key) == page && (page.kind == 1 || others > 0)) {
                needed.add(page);
            }
        }
        return needed;
    }

    private static Reading read(int[] words) {
        int zeros = 178;
        for (int word : words) {
            zeros -= Integer.bitCount(word);
        }
        if (zeros <= 2) {
            return new Reading(BLANK, null);
        }
        int wrong = words[5] ^ Forge.parity(words);
        Reading reading = new Reading(SOUND, words.clone());
        if (wrong != 0) {
            reading = mended(words, wrong);
        }
        return reading.words != null && isRecord(reading.words) ? reading : new Reading(ROTTEN, null);
    }

    private static Reading mended(int[] words, int wrong) {
        for (int i = 0; i < 178; i++) {
            if (SYNDROME[i] == wrong) {
                return new Reading(MENDED, Forge.turned(words, i));
            }
            for (int j = 0; j < i; j++) {
                if ((SYNDROME[i] ^ SYNDROME[j]) == wrong) {
                    return new Reading(MENDED, Forge.turned(words, i, j));
                }
            }
        }
        return new Reading(ROTTEN, null);
    }

    private static boolean isRecord(int[] words) {
        boolean checked = words[4] == Forge.check(words[0], words[1], words[2], words[3]);
        return checked && words[1] >= 0 && words[1] <= 15 && (words[3] == 1 || words[3] == 2);
    }

    /** How PARITY as stored and PARITY as made differ when one bit of a sound page is turned round. */
    private static int[] syndromes() {
        int[] result = new int[178];
        for (int i = 0; i < 178; i++) {
            int[] words = Forge.turned(new int[6], i);
            result[i] = words[5] ^ Forge.parity(words);
        }
        return result;
    }
}
