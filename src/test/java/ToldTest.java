/** Promises 19 to 21: judge, ways, drawn. */
public final class ToldTest {
    private static final Check C = new Check("ToldTest");

    public static void main(String[] args) {
        judge();
        ways();
        refused();
        drawn();
        drawnByLaw();
        C.finish();
    }

    private static int judged(PastOnce x, int... told) {
        Check.bytes(x, 0, told);
        return x.judge(0);
    }

    private static void judge() {
        PastOnce x = new PastOnce();
        C.due("19: no DISHES", judged(x, 5), PastOnce.NOT);
        x.dish(53, 0);
        x.dish(52, 1);
        x.dish(51, 2);
        C.due("19: nothing", judged(x), PastOnce.NOT);
        C.due("19: all lacks but one", judged(x, 4), PastOnce.NOT);
        C.due("19: more than are there", judged(x, 5), 0);
        C.due("19: all", judged(x, 4, 4), PastOnce.NOT);
        C.due("19: full", judged(x, 4, 4, 1), 2);
        C.due("19: below 0", judged(x, 1, -1, 9), 1);
        C.due("19: what is behind", judged(x, 1, 1, 1, 9, -1), PastOnce.NOT);
        x.mend(0, 5, 1);
        C.due("19: 4 times 3, 2 times 3", judged(x, 4, 2), PastOnce.NOT);
        C.due("19: it runs", judged(x, 4, 3), 1);
        C.due("19: not of itself", judged(x, 4, 0), PastOnce.NOT);
        x.mend(2, 9, 1);
        C.due("19: barred", judged(x, 1, 0, 1), 2);
        C.due("19: none of it is no harm", judged(x, 1, 1, 0), PastOnce.NOT);
        C.due("19: not both", judged(x, 0, 1, 1), PastOnce.NOT);
    }

    private static int wayBits(PastOnce x, int... told) {
        Check.bytes(x, 0, told);
        return x.ways(0);
    }

    private static void ways() {
        PastOnce x = new PastOnce();
        C.due("20: no DISHES", wayBits(x), 15);
        x.dish(21, 0);
        x.dish(31, 1);
        C.due("20: BEST, BY LAW", wayBits(x, 2, 3), 5);
        C.due("20: shy", wayBits(x, 1, 1), 2);
        C.due("20: greedy", wayBits(x, 4, 4), 8);
        C.due("20: behind does not count", wayBits(x, 4, 4, 7), 8);
        C.due("20: none", wayBits(x, 0, 0), 0);
        C.due("20: below 0", wayBits(x, -1, 3), 0);
        Check.tell(x, "k=0&t<2");
        C.due("20: BY LAW, what lacks is 0", wayBits(x, 2), 4);
        C.due("20: BEST alone", wayBits(x, 2, 3), 1);
        x.mend(0, 3, 0);
        x.mend(1, 3, 0);
        C.due("20: all take none", wayBits(x), 15);
    }

    private static void refused() {
        PastOnce x = new PastOnce();
        x.dish(53, 0);
        C.due("19: nothing there", x.judge(0), -11);
        C.due("20: nothing there", x.ways(0), -11);
        for (int sort = 1; sort <= 4; sort++) {
            x.row(0, sort, 3);
            C.due("19: no bytes", x.judge(0), -12);
            C.due("20: no bytes", x.ways(0), -12);
        }
        x.body(0);
        x.keep(0, 0);
        C.due("19: a BODY", x.judge(0), -12);
        C.due("20: a BODY", x.ways(0), -12);
        C.due("19: shelf 6", x.judge(6), PastOnce.BAD);
        C.due("20: shelf 6", x.ways(6), PastOnce.BAD);
        C.due("19: shelf -1", x.judge(-1), PastOnce.BAD);
        C.due("20: shelf -1", x.ways(-1), PastOnce.BAD);
    }

    // One DISH, one spoon at 7: by how many draws it is there.
    private static int there(int seed, int n, int chance) {
        int z = seed;
        int all = 0;
        for (int i = 0; i < n; i++) {
            z = z * 1103515245 + 12345;
            if ((z >>> 8) % 12 < chance) {
                all++;
            }
        }
        return all;
    }

    private static void drawn() {
        PastOnce x = new PastOnce();
        C.due("21: no DISHES", x.drawn(1, 200, 0), 0);
        x.dish(71, 0);
        x.mend(0, 3, 1);
        int[] seeds = {0, 1, -1, 7, 123456789, Integer.MIN_VALUE, Integer.MAX_VALUE};
        for (int seed : seeds) {
            for (int chance = 0; chance <= 12; chance += 3) {
                x.mend(0, 7, chance);
                for (int way = 0; way < 4; way++) {
                    C.due("21: worth", x.drawn(seed, 200 + way, 0), 7 * there(seed, 20, chance));
                    C.due("21: spoons", x.drawn(seed, 10 + way, 1), there(seed, 1, chance));
                }
            }
        }
        int[] bad = {-1, 0, 3, 9, 14, 204, 210, Integer.MAX_VALUE, Integer.MIN_VALUE};
        for (int nw : bad) {
            C.due("21: drawn by " + nw, x.drawn(1, nw, 0), PastOnce.VOID);
        }
        C.due("21: what 2", x.drawn(1, 10, 2), PastOnce.VOID);
        C.due("21: what -1", x.drawn(1, 10, -1), PastOnce.VOID);
        C.due("21: in thought", x.of(0, 3), 1);
        // BEST is of what is there: with the second one away the first may be taken.
        x = new PastOnce();
        x.dish(51, 0);
        x.dish(91, 0);
        x.mend(0, 8, 1);
        x.mend(1, 7, 0);
        C.due("21: the first for sure", x.drawn(5, 30, 0), 15);
        x.mend(1, 7, 12);
        C.due("21: the better one", x.drawn(5, 30, 0), 27);
        C.due("21: all of the spoons on each line", x.drawn(5, 203, 1), 20);
    }

    // A DISH that is not there keeps its number, and those behind theirs.
    private static void drawnByLaw() {
        PastOnce x = new PastOnce();
        x.dish(51, 0);
        x.dish(91, 0);
        x.mend(0, 7, 0);
        Check.tell(x, "k=1&n=0");
        C.due("21: four at place 1", x.drawn(5, 12, 1), 4);
        x.mend(0, 7, 12);
        x.mend(1, 7, 0);
        Check.tell(x, "n=1");
        C.due("21: four with one behind", x.drawn(5, 12, 1), 4);
    }
}
