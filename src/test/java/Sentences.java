import java.util.ArrayList;
import java.util.List;

/** Tests that each stand for one sentence of the document: a wrong answer is told with the sentence it breaks. */
final class Sentences {
    private final Checks checks;
    private final String name;
    private String sentence = "";
    private final List<String> broken = new ArrayList<>();
    private int tested;

    Sentences(String name) {
        this.name = name;
        checks = new Checks(name);
    }

    /** The words stand in the document; each body is one case of what they say. */
    void test(String words, Runnable... bodies) {
        sentence = words;
        tested++;
        int wrong = checks.wrong();
        for (Runnable body : bodies) {
            try {
                body.run();
            } catch (RuntimeException thrown) {
                checks.thrown(told("a call"), thrown);
            }
        }
        if (checks.wrong() > wrong) {
            broken.add(words);
        }
    }

    void due(String what, int got, int want) {
        checks.due(told(what), got, want);
    }

    void due(String what, boolean got, boolean want) {
        checks.due(told(what), got, want);
    }

    void dueRow(String what, int[] got, int[] want) {
        due(what + ": length", got.length, want.length);
        for (int i = 0; i < Math.min(got.length, want.length); i++) {
            due(what + ": [" + i + "]", got[i], want[i]);
        }
    }

    void dueWords(String what, Probe x, int p, int[] want) {
        dueRow(what + ": the words of page " + p, x.words(p), want);
    }

    void end() {
        System.out.println(name + ": " + tested + " sentences, " + broken.size() + " broken");
        for (String words : broken) {
            System.out.println(name + ": broken: " + words);
        }
        checks.end();
    }

    private String told(String what) {
        return "\"" + sentence + "\" " + what;
    }
}
