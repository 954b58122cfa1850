import java.io.IOException;

/** One sentence of the document at a time: its words stand in DOC.md, and the answers at its edges are as due. */
final class Edge {
    interface Asked {
        long by(int v);
    }

    static final int BAD = PastOnce.BAD, NOT = PastOnce.NOT, FULL = PastOnce.FULL, STATE = PastOnce.STATE, VOID = PastOnce.VOID;
    static final int NOTHING = -11, OTHER = -12, NO_PLACE = -13, NO_SIZE = -14;
    static final long NO_NUMBER = Long.MIN_VALUE;

    private final Check check = new Check("EdgesTest");
    private final Doc doc = new Doc();
    private String sentence = "";
    private int answers = 1;

    Edge() throws IOException {
    }

    /** From here on the answers are asked for this sentence of this section. */
    void says(String section, String words) {
        check.holds("there are answers for " + sentence, answers > 0);
        sentence = section + ", \"" + words + "\": ";
        answers = 0;
        check.holds(sentence + "it stands in DOC.md", doc.quote(section, words));
    }

    void due(String call, long got, long want) {
        answers++;
        check.due(sentence + call, got, want);
    }

    /** The least and the most are taken; one below, one above and the farthest ones are refused. */
    void between(String call, int least, int most, long refusal, Asked asked) {
        int[] outside = {least - 1, most + 1, Integer.MIN_VALUE, Integer.MAX_VALUE};
        for (int v : outside) {
            due(call + " with " + v, asked.by(v), refusal);
        }
        due(call + " with " + least + " is refused", asked.by(least) == refusal ? 1 : 0, 0);
        due(call + " with " + most + " is refused", asked.by(most) == refusal ? 1 : 0, 0);
    }

    void finish() {
        check.holds("there are answers for " + sentence, answers > 0);
        for (String missing : doc.unquoted()) {
            check.holds("a test quotes " + missing, false);
        }
        for (String missing : doc.untouched()) {
            check.holds("a test quotes " + missing, false);
        }
        check.finish();
    }
}
