/** The sentences under "Terms" on acts and arming, with what promises 11, 12 and 17 say of the same. */
public final class ActsSentencesTest {
    private final Sentences s = new Sentences("ActsSentencesTest");

    public static void main(String[] args) {
        ActsSentencesTest t = new ActsSentencesTest();
        t.terms();
        t.promises();
        t.s.end();
    }

    private void terms() {
        s.test("EVERY WRITING of a page", this::writingIsAnAct);
        s.test("and every erasing of a block is an ACT.", this::erasingIsAnAct);
        s.test("When acts are ARMED with n, the next n happen", this::nextHappen, this::othersTakeNone);
        s.test("and all later ones do not", this::laterDoNot);
        s.test("the first that does not makes the store CRASHED and not ready", this::crashedAndNotReady);
        s.test("and the call that wanted it answers CRASHED at once.", this::putAtOnce, this::removeAtOnce,
            this::scrubAtOnce);
        s.test("Otherwise all acts happen.", this::allHappen);
    }

    private void promises() {
        s.test("Acts are armed with n: true.", this::armedAnew, this::armedWithTheGreatest);
        s.test("False when n is below 0.", this::armBelowZero);
        s.test("Whether the store is crashed.", this::crashedOrNot);
        s.test("How many acts happened since the store was made.", this::countOfActs);
    }

    private void dueActs(String what, Probe x, int want) {
        s.due(what + ": acts", x.acts(), want);
    }

    private void writingIsAnAct() {
        Probe x = new Probe(3, 4);
        dueActs("none", x, 0);
        x.puts(1);
        dueActs("put", x, 1);
        x.remove(1);
        dueActs("remove", x, 2);
        x.turn(0, 9);
        x.turn(1, 9, 10);
        x.turn(11, 9);
        x.scrub();
        dueActs("scrub of three pages", x, 5);
        Probe y = Probe.with(3, 4, 0, 1, 2, 3, 4, 5, 6, 0);
        dueActs("puts", y, 8);
        y.puts(7);
        dueActs("three copies, an erasing and a writing", y, 13);
    }

    /** Of a block with nothing needed, so that no page is copied. */
    private void erasingIsAnAct() {
        for (int pages = 2; pages <= 4; pages++) {
            Probe x = new Probe(3, pages);
            for (int i = 0; i < 2 * pages; i++) {
                x.puts(7);
            }
            x.puts(7);
            dueActs("the erasing of " + pages + " pages and a writing", x, 2 * pages + 2);
            s.dueWords("erased", x, pages - 1, Forge.erased());
        }
    }

    private void nextHappen() {
        for (int n = 0; n <= 5; n++) {
            Probe x = new Probe(5, 4);
            x.arm(n);
            for (int i = 0; i < n; i++) {
                s.due("armed with " + n + ": put " + i, x.put(i, i), 0);
            }
            s.due("armed with " + n + ": not crashed by the last that happens", x.crashed(), false);
            s.due("armed with " + n + ": the next", x.put(9, 9), Probe.CRASHED);
            dueActs("armed with " + n, x, n);
            s.due("armed with " + n + ": what happened", x.mount(), n);
        }
    }

    /** Calls that make no act do not use up what was armed. */
    private void othersTakeNone() {
        Probe x = Probe.with(4, 2, 1, 2, 3);
        x.arm(1);
        x.turn(5, 3);
        x.turn(5, 3);
        s.due("a key that is not held", x.remove(9), 1);
        s.due("a key that there is not", x.put(16, 1), Probe.BAD);
        s.due("nothing to scrub", x.scrub(), 0);
        x.get(1);
        x.condition(0);
        x.needed(0);
        s.due("the one act", x.put(1, 1), 0);
        s.due("the next", x.put(1, 2), Probe.CRASHED);
        Probe y = Probe.with(3, 2, 1, 2, 3, 4);
        y.arm(1);
        s.due("full", y.put(5, 5), Probe.FULL);
        y.turn(0, 3);
        s.due("the one act", y.scrub(), 1);
        y.turn(0, 3);
        s.due("the next", y.scrub(), Probe.CRASHED);
    }

    private void laterDoNot() {
        Probe x = Probe.with(3, 4, 1);
        x.turn(0, 3);
        x.arm(0);
        int[] words = x.words(0);
        s.due("the first", x.put(2, 2), Probe.CRASHED);
        s.due("put", x.put(2, 2), Probe.CRASHED);
        s.due("remove", x.remove(1), Probe.CRASHED);
        s.due("scrub", x.scrub(), Probe.CRASHED);
        s.due("arm", x.arm(100), true);
        s.due("put though armed anew", x.put(2, 2), Probe.CRASHED);
        s.due("scrub though armed anew", x.scrub(), Probe.CRASHED);
        dueActs("none of them", x, 1);
        s.dueWords("scrub wrote nothing", x, 0, words);
        for (int p = 1; p < x.pages(); p++) {
            s.dueWords("nothing was written", x, p, Forge.erased());
        }
        s.due("mount", x.mount(), 1);
        Probe y = new Probe(3, 4);
        y.arm(2);
        y.puts(1, 2);
        s.due("the third", y.put(3, 3), Probe.CRASHED);
        s.due("the fourth", y.put(4, 4), Probe.CRASHED);
        dueActs("two", y, 2);
        s.dueWords("nothing was written", y, 2, Forge.erased());
    }

    private void crashedAndNotReady() {
        Probe x = Probe.with(3, 4, 1);
        x.arm(0);
        s.due("armed", x.crashed(), false);
        s.due("armed and still ready", x.size(), 1);
        s.due("put", x.put(1, 5), Probe.CRASHED);
        s.due("crashed", x.crashed(), true);
        s.due("size", x.size(), Probe.CRASHED);
        s.due("head", x.head(), Probe.CRASHED);
        s.due("needed", x.needed(0), Probe.CRASHED);
        s.due("has", x.has(1), false);
        s.due("get", x.get(1), 0);
    }

    /** Key 6 finds two blocks full: two needed pages are copied, block 0 is erased and the record written. */
    private static Probe aboutToClean(int n) {
        Probe x = Probe.with(3, 3, 0, 1, 2, 3, 4, 0);
        x.arm(n);
        return x;
    }

    /** The flash is as it was before the act that did not happen. */
    private void dueAfter(int n, Probe x, int[] record) {
        String what = "after " + n + " acts";
        int[] none = Forge.erased();
        s.dueWords(what, x, 6, n >= 1 ? Forge.record(2, 1, 101, 1) : none);
        s.dueWords(what, x, 7, n >= 2 ? Forge.record(3, 2, 102, 1) : none);
        s.dueWords(what, x, 8, n >= 4 ? record : none);
        for (int p = 0; p < 3; p++) {
            s.dueWords(what, x, p, n >= 3 ? none : Forge.record(p + 1, p, 100 + p, 1));
        }
        s.dueWords(what, x, 5, Forge.record(6, 0, 100, 1));
        s.due(what + ": acts", x.acts(), 6 + n);
        s.due(what + ": crashed", x.crashed(), n < 4);
        s.due(what + ": size", x.size() == Probe.CRASHED, n < 4);
        s.due(what + ": mount finds what there was", x.mount() >= 4, true);
        s.due(what + ": get(1)", x.get(1), 101);
        s.due(what + ": get(2)", x.get(2), 102);
        s.due(what + ": get(3)", x.get(3), 103);
        s.due(what + ": get(0)", x.get(0), 100);
    }

    private void putAtOnce() {
        for (int n = 0; n <= 4; n++) {
            Probe x = aboutToClean(n);
            s.due("armed with " + n + ": put", x.put(6, 106), n < 4 ? Probe.CRASHED : 0);
            dueAfter(n, x, Forge.record(7, 6, 106, 1));
        }
    }

    private void removeAtOnce() {
        for (int n = 0; n <= 4; n++) {
            Probe x = aboutToClean(n);
            s.due("armed with " + n + ": remove", x.remove(4), n < 4 ? Probe.CRASHED : 0);
            dueAfter(n, x, Forge.record(7, 4, 0, 2));
        }
    }

    private void scrubAtOnce() {
        for (int n = 0; n <= 4; n++) {
            Probe x = Probe.with(3, 3, 1, 2);
            int[] pages = {0, 1, 5, 8};
            for (int p : pages) {
                x.turn(p, 70);
            }
            x.arm(n);
            s.due("armed with " + n + ": scrub", x.scrub(), n < 4 ? Probe.CRASHED : 4);
            for (int i = 0; i < 4; i++) {
                int[] fresh = i < 2 ? Forge.record(i + 1, i + 1, 101 + i, 1) : Forge.erased();
                s.dueWords("after " + n + " acts", x, pages[i], i < n ? fresh : Forge.turned(fresh, 70));
            }
            dueActs("armed with " + n, x, 2 + n);
            s.due("armed with " + n + ": crashed", x.crashed(), n < 4);
        }
    }

    private void allHappen() {
        Probe x = new Probe(3, 2);
        for (int i = 0; i < 300; i++) {
            s.due("put " + i, x.put(i % 2, i), 0);
        }
        s.due("crashed", x.crashed(), false);
        s.due("get", x.get(1), 299);
        x.arm(0);
        x.mount();
        s.due("after mount", x.put(1, 1), 0);
        x.arm(0);
        x.init();
        s.due("after init", x.put(1, 1), 0);
    }

    private void armedAnew() {
        int[][] armings = {{0, 2, 2}, {3, 1, 1}, {5, 0, 0}, {2, -1, 2}, {0, Integer.MIN_VALUE, 0}};
        for (int[] a : armings) {
            Probe x = new Probe(5, 4);
            s.due("arm(" + a[0] + ")", x.arm(a[0]), true);
            s.due("arm(" + a[1] + ")", x.arm(a[1]), a[1] >= 0);
            for (int i = 0; i < a[2]; i++) {
                s.due("put", x.put(i, i), 0);
            }
            s.due("arm(" + a[0] + "), arm(" + a[1] + "): the first that fails", x.put(9, 9), Probe.CRASHED);
        }
        Probe x = Probe.with(5, 4, 1);
        x.crash();
        s.due("arm while not ready", x.arm(1), true);
        s.due("still crashed", x.crashed(), true);
        s.due("put", x.put(1, 1), Probe.CRASHED);
        x.mount();
        s.due("mount disarms", x.put(1, 1) + x.put(1, 2), 0);
    }

    private void armedWithTheGreatest() {
        Probe x = new Probe(3, 2);
        s.due("arm", x.arm(Integer.MAX_VALUE), true);
        for (int i = 0; i < 50; i++) {
            s.due("put " + i, x.put(1, i), 0);
        }
        s.due("crashed", x.crashed(), false);
    }

    private void armBelowZero() {
        int[] below = {-1, -2, Integer.MIN_VALUE};
        for (int n : below) {
            Probe x = new Probe(3, 4);
            s.due("arm(" + n + ")", x.arm(n), false);
            s.due("nothing is armed", x.put(1, 1) + x.put(1, 2) + x.put(1, 3), 0);
            x.arm(1);
            s.due("arm(" + n + ") when armed", x.arm(n), false);
            s.due("one act as before", x.put(1, 4), 0);
            s.due("and no more", x.put(1, 5), Probe.CRASHED);
            s.due("arm(" + n + ") when crashed", x.arm(n), false);
        }
        s.due("0 is not below", new Probe(3, 2).arm(0), true);
    }

    private void crashedOrNot() {
        Probe x = Probe.with(3, 4, 1);
        s.due("new", x.crashed(), false);
        x.crash();
        s.due("crashed", x.crashed(), true);
        x.put(1, 1);
        x.scrub();
        s.due("still", x.crashed(), true);
        x.mount();
        s.due("mounted", x.crashed(), false);
        x.crash();
        x.init();
        s.due("after init", x.crashed(), false);
        x.crash();
        x.spoil(3);
        s.due("a bad page: mount", x.mount(), -1);
        s.due("not ready, but not crashed", x.crashed(), false);
        s.due("size", x.size(), Probe.CRASHED);
    }

    private void countOfActs() {
        Probe x = Probe.with(3, 4, 1, 2);
        dueActs("two", x, 2);
        x.init();
        dueActs("after init", x, 2);
        x.puts(1);
        dueActs("counted on", x, 3);
        x.mount();
        dueActs("after mount", x, 3);
        x.crash();
        dueActs("what did not happen", x, 3);
        x.mount();
        x.put(-1, 0);
        x.remove(9);
        x.turn(0, 1);
        dueActs("refused calls and rot", x, 3);
        x.scrub();
        dueActs("scrub", x, 4);
    }
}
