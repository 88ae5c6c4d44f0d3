import java.util.Random;

/** Long runs of calls with fixed seeds, each answer set against that of the model. */
public final class ModelTest {
    private static final int RUNS = 4000;
    private static final int CALLS = 512;

    private final Checks checks = new Checks("ModelTest");
    private Random random;
    private BitRotStore x;
    private Model m;
    private String run;
    private int calls;
    private int keys;
    private int rotWeight;
    private int cleanings;

    public static void main(String[] args) {
        ModelTest test = new ModelTest();
        for (int seed = 0; seed < RUNS && test.checks.wrong() == 0; seed++) {
            test.oneRun(seed);
        }
        test.checks.holds("the runs came to many cleanings", test.cleanings > RUNS);
        test.checks.end();
    }

    private void oneRun(int seed) {
        random = new Random(seed);
        int blocks = random.nextInt(20) == 0 ? random.nextInt() : 2 + random.nextInt(5);
        int pages = random.nextInt(20) == 0 ? random.nextInt() : 1 + random.nextInt(5);
        run = "seed " + seed + " (" + blocks + ", " + pages + ")";
        x = new BitRotStore(blocks, pages);
        m = new Model(blocks, pages);
        keys = 1 + random.nextInt(16);
        rotWeight = random.nextInt(3) * 5;
        calls = 0;
        while (calls < CALLS && checks.wrong() == 0) {
            step();
        }
        cleanings += m.cleanings;
    }

    private void step() {
        int choice = random.nextInt(100 + rotWeight);
        if (choice < 40) {
            int key = someKey();
            int value = someValue();
            due("put(" + key + ", " + value + ")", x.put(key, value), m.put(key, value));
        } else if (choice < 50) {
            int key = someKey();
            due("remove(" + key + ")", x.remove(key), m.remove(key));
        } else if (choice < 53) {
            int n = random.nextInt(8) - 1;
            due("arm(" + n + ")", x.arm(n) ? 1 : 0, m.arm(n) ? 1 : 0);
        } else if (choice < 56 || choice < 62 && !m.isReady()) {
            due("mount()", x.mount(), m.mount());
        } else if (choice < 59) {
            due("scrub()", x.scrub(), m.scrub());
        } else if (choice < 60 && random.nextInt(m.isReady() ? 20 : 3) == 0) {
            x.init();
            m.init();
            calls++;
        } else if (choice < 61 && random.nextInt(4) == 0) {
            forge();
        } else if (choice < 100) {
            look();
        } else {
            turn(random.nextInt(m.pageCount() + 2) - 1, random.nextInt(180) - 1);
        }
    }

    private void look() {
        int key = someKey();
        int p = random.nextInt(m.pageCount() + 2) - 1;
        int b = random.nextInt(m.blocks + 2) - 1;
        int k = random.nextInt(8) - 1;
        switch (random.nextInt(9)) {
            case 0 -> due("has(" + key + ")", x.has(key) ? 1 : 0, m.has(key) ? 1 : 0);
            case 1 -> due("get(" + key + ")", x.get(key), m.get(key));
            case 2 -> due("size()", x.size(), m.size());
            case 3 -> due("crashed()", x.crashed() ? 1 : 0, m.crashed() ? 1 : 0);
            case 4 -> due("condition(" + p + ")", x.condition(p), m.condition(p));
            case 5 -> due("word(" + p + ", " + k + ")", x.word(p, k), m.word(p, k));
            case 6 -> due("needed(" + b + ")", x.needed(b), m.needed(b));
            case 7 -> due("head()", x.head(), m.head());
            default -> due("acts()", x.acts(), m.acts());
        }
    }

    /** Makes a page a record that no put has written there, sometimes with a defect, by turning its bits. */
    private void forge() {
        int p = random.nextInt(m.pageCount());
        int[] words = m.wordsOf(random.nextInt(m.pageCount()));
        if (random.nextInt(3) > 0) {
            int[] seqs = {Integer.MAX_VALUE, Integer.MIN_VALUE, -1, 0, words[0], words[0] + 1};
            int seq = seqs[random.nextInt(seqs.length)];
            int key = random.nextInt(6) == 0 ? someKey() : random.nextInt(keys);
            int kind = random.nextInt(10) == 0 ? random.nextInt(4) : 1 + random.nextInt(2);
            words = Forge.record(seq, key, someValue(), kind);
        }
        if (random.nextInt(12) == 0) {
            words = Forge.withCheck(words[0], words[1], words[2], words[3], words[4] ^ 1 << random.nextInt(32));
        }
        for (int turns = random.nextInt(4); turns > 0; turns--) {
            words = Forge.turned(words, random.nextInt(178));
        }
        int[] now = m.wordsOf(p);
        for (int i = 0; i < 178; i++) {
            if (((now[i / 32] ^ words[i / 32]) >> (i % 32) & 1) == 1) {
                turn(p, i);
            }
        }
        if (random.nextInt(3) > 0) {
            due("mount()", x.mount(), m.mount());
        }
    }

    private void turn(int p, int i) {
        due("rot(" + p + ", " + i + ")", x.rot(p, i) ? 1 : 0, m.rot(p, i) ? 1 : 0);
    }

    private int someKey() {
        return random.nextInt(20) == 0 ? random.nextInt(18) - 1 : random.nextInt(keys);
    }

    private int someValue() {
        int[] edges = {0, 1, -1, Integer.MAX_VALUE, Integer.MIN_VALUE};
        return random.nextInt(4) == 0 ? edges[random.nextInt(edges.length)] : random.nextInt();
    }

    private void due(String call, int got, int want) {
        calls++;
        if (calls <= CALLS) {
            checks.due(run + ", call " + calls + ": " + call, got, want);
        }
    }
}
