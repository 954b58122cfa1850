/** Promises 8 to 11: best, sight, byLaw, mean. */
public final class ThoughtTest {
    private static final Check C = new Check("ThoughtTest");

    public static void main(String[] args) {
        best();
        bestOfLikeOnes();
        bars();
        runs();
        sight();
        byLaw();
        namesOfTheLaw();
        mean();
        meanRefused();
        greatestMean();
        thinkingChangesNothing();
        C.finish();
    }

    private static PastOnce with(int... ws) {
        PastOnce x = new PastOnce();
        for (int i = 0; i < ws.length; i++) {
            x.dish(ws[i], i % 5);
        }
        return x;
    }

    private static void best() {
        PastOnce x = new PastOnce();
        C.due("8: nothing", x.best(-1), 0);
        C.due("8: all the room", x.best(-2), 20);
        C.due("8: no DISH", x.best(0), PastOnce.VOID);
        // 10, 9, 8, 7 at 4 each; 5, 4, 3, 2 at 2 each; room for 11: 10 + 9 (8) and 5 (2), 1 left.
        x = with(104, 52);
        x.mend(0, 8, 11);
        C.due("8: worth", x.best(-1), 24);
        C.due("8: room left", x.best(-2), 1);
        C.due("8: of 0", x.best(0), 2);
        C.due("8: of 1", x.best(1), 1);
        // 10 and 6 + 5 + 4 come to as much as 10 + 9 and 6: of like ones fewer of the first.
        x.mend(1, 0, 6);
        C.due("8: like ones, of 0", x.best(0), 1);
        C.due("8: like ones, of 1", x.best(1), 3);
        C.due("8: no such DISH", x.best(2), PastOnce.VOID);
        C.due("8: -3", x.best(-3), PastOnce.VOID);
        // Spoons below 0 are left.
        x = with(21);
        x.mend(0, 1, 2);
        x.mend(0, 3, 9);
        C.due("8: only what is worth something", x.best(0), 1);
        C.due("8: worth 2", x.best(-1), 2);
    }

    private static void bestOfLikeOnes() {
        PastOnce x = with(53, 53);
        x.mend(0, 8, 3);
        C.due("8: fewest of the first", x.best(0), 0);
        C.due("8: then of the next", x.best(1), 1);
        // 0 more for the third spoon: it is left.
        x = with(21);
        C.due("8: worth nothing, not taken", x.best(0), 2);
        // 6 for 3 or 6 for 2 + 2: of like ones none of the first, more room is no matter.
        x = with(62, 33, 33);
        x.mend(1, 3, 1);
        x.mend(2, 3, 1);
        x.mend(0, 3, 1);
        x.mend(0, 8, 6);
        C.due("8: 6 + 3", x.best(-1), 9);
        C.due("8: of 0", x.best(0), 1);
        C.due("8: of 1, like 2", x.best(1), 0);
        C.due("8: of 2", x.best(2), 1);
        C.due("8: room left", x.best(-2), 1);
    }

    private static void bars() {
        PastOnce x = new PastOnce();
        x.dish(51, 0);
        x.dish(61, 1);
        C.due("8: both", x.best(-1), 5 + 4 + 3 + 2 + 6 + 5 + 4 + 3);
        x.mend(0, 9, 2);
        C.due("8: 0 bars 1", x.best(-1), 18);
        C.due("8: none of 0", x.best(0), 0);
        x.mend(0, 9, 0);
        x.mend(1, 9, 1);
        C.due("8: 1 bars 0", x.best(-1), 18);
        x.mend(1, 9, 2);
        C.due("8: 1 bars 1: one DISH of it alone, all its spoons", x.best(1), 4);
        x.mend(0, 4, 1);
        C.due("8: one DISH alone", x.best(-1), 18);
        x.mend(0, 0, 9);
        C.due("8: the other one", x.best(0), 4);
        C.due("8: and not this", x.best(1), 0);
    }

    private static void runs() {
        PastOnce x = with(52, 52);
        x.mend(0, 5, 1);
        x.mend(0, 1, 0);
        x.mend(1, 1, 0);
        x.mend(0, 8, 20);
        // Four of 0 at 2 (8), four of 1 at 3 (12): just 20.
        C.due("8: all", x.best(-1), 40);
        C.due("8: no room", x.best(-2), 0);
        x.mend(0, 8, 19);
        C.due("8: one less", x.best(-1), 35);
        x.mend(0, 5, 0);
        x.mend(1, 5, 1);
        x.mend(0, 8, 16);
        C.due("8: what runs behind does no harm, nor to itself", x.best(-1), 40);
        x.mend(0, 5, 1);
        x.mend(0, 3, 0);
        x.mend(0, 8, 8);
        C.due("8: what is not taken does not run", x.best(-1), 20);
    }

    private static void sight() {
        PastOnce x = with(13, 53, 93);
        x.mend(0, 8, 12);
        // s 0: 1 of 0 (1 > 0, the next is worth 0); then 3 of 1 (9 left): 5 + 4 + 3; none of 2.
        C.due("9: s 0", x.sight(0, -1), 13);
        C.due("9: s 0, of 0", x.sight(0, 0), 1);
        C.due("9: s 0, of 1", x.sight(0, 1), 3);
        C.due("9: s 0, of 2", x.sight(0, 2), 0);
        // s 1: at 0, with 1 in sight: 5 + 4 + 3 + 2 fill it; at 1, with 2 in sight: 9 + 8 + 7 + 6.
        C.due("9: s 1", x.sight(1, -1), 30);
        C.due("9: s 1, of 0", x.sight(1, 0), 0);
        C.due("9: s 1, of 1", x.sight(1, 1), 0);
        C.due("9: s 8", x.sight(8, -1), x.best(-1));
        C.due("9: s 9", x.sight(9, -1), PastOnce.VOID);
        C.due("9: s -1", x.sight(-1, -1), PastOnce.VOID);
        C.due("9: DISH 3", x.sight(0, 3), PastOnce.VOID);
        C.due("9: DISH -2", x.sight(0, -2), PastOnce.VOID);
        C.due("9: none", new PastOnce().sight(0, -1), 0);
        C.due("9: none, DISH 0", new PastOnce().sight(0, 0), PastOnce.VOID);
        // What lies there bars and runs.
        x = with(51, 92);
        x.mend(0, 9, 2);
        C.due("9: barred by what lies there", x.sight(0, 1), 0);
        C.due("9: seen ahead", x.sight(1, 1), 4);
        x.mend(0, 9, 0);
        x.mend(0, 5, 1);
        x.mend(0, 8, 12);
        C.due("9: 4 of 0, then 2 at 3 each", x.sight(0, 1), 2);
    }

    private static void byLaw() {
        PastOnce x = with(21, 93);
        C.due("10: without a text w > 0", x.byLaw(0), 2);
        C.due("10: worth", x.byLaw(-1), 3 + 9 + 8 + 7 + 6);
        C.due("10: DISH 2", x.byLaw(2), PastOnce.VOID);
        C.due("10: -2", x.byLaw(-2), PastOnce.VOID);
        C.due("10: none", new PastOnce().byLaw(-1), 0);
        Check.tell(x, "1");
        C.due("10: whatever it is worth", x.byLaw(-1), 2 + 1 + 0 - 1 + 9 + 8 + 7 + 6);
        C.due("10: all of 0", x.byLaw(0), 4);
        x.mend(0, 8, 8);
        C.due("10: if it MAY be", x.byLaw(1), 1);
        Check.tell(x, "-1");
        C.due("10: below 0 is not 0", x.byLaw(0), 4);
        Check.tell(x, "0");
        C.due("10: none of it", x.byLaw(-1), 0);
        x.mend(0, 9, 2);
        Check.tell(x, "1");
        C.due("10: barred", x.byLaw(1), 0);
    }

    private static void namesOfTheLaw() {
        PastOnce x = with(91, 91, 91);
        Check.tell(x, "k=1");
        C.due("10: k, of 0", x.byLaw(0), 0);
        C.due("10: k, of 1", x.byLaw(1), 4);
        C.due("10: k, of 2", x.byLaw(2), 0);
        Check.tell(x, "n=2");
        C.due("10: n, of 0", x.byLaw(0), 4);
        C.due("10: n, of 1", x.byLaw(1), 0);
        Check.tell(x, "t<1");
        C.due("10: t, of 2", x.byLaw(2), 1);
        Check.tell(x, "w=9|w=8");
        C.due("10: w, of 1", x.byLaw(1), 2);
        Check.tell(x, "l>17");
        C.due("10: l, of 0", x.byLaw(0), 3);
        C.due("10: l, of 1", x.byLaw(1), 0);
        x.mend(0, 5, 1);
        Check.tell(x, "s=1");
        C.due("10: s, of 0", x.byLaw(0), 4);
        C.due("10: s, with what runs", x.byLaw(1), 0);
        Check.tell(x, "s=2");
        C.due("10: s, where nothing ran", x.byLaw(1), 0);
        Check.tell(x, "k=0|s=2");
        C.due("10: s, where it ran", x.byLaw(1), 4);
    }

    private static void mean() {
        PastOnce x = with(101);
        x.mend(0, 3, 1);
        x.mend(0, 7, 3);
        C.due("11: above", x.mean(0), 5);
        C.due("11: below", x.mean(1), 2);
        C.due("11: there, above", x.mean(2), 10);
        C.due("11: there, below", x.mean(3), 1);
        C.due("11: there, spoons", x.mean(4), 1);
        x.mend(0, 7, 0);
        C.due("11: never there, above", x.mean(0), 0);
        C.due("11: never there, below", x.mean(1), 1);
        C.due("11: if it were", x.mean(2), 10);
        // One place: 5 for sure now, or 12 with 5 of 12 chances (5 on the mean): of like ones the fewest now.
        x = with(51, 121);
        x.mend(0, 8, 1);
        x.mend(1, 7, 5);
        C.due("11: like ones", x.mean(4), 0);
        C.due("11: like ones, worth", x.mean(2), 5);
        x.mend(1, 7, 4);
        C.due("11: better now", x.mean(4), 1);
        x.mend(1, 7, 6);
        C.due("11: better later", x.mean(4), 0);
        C.due("11: 6 on the mean", x.mean(2), 6);
        // It is seen as one comes to it: 12 by 1/2, and one that is not there leaves room for the last one.
        x = with(121, 51);
        x.mend(0, 8, 1);
        x.mend(0, 7, 6);
        C.due("11: 12 or 5, above", x.mean(0), 17);
        C.due("11: 12 or 5, below", x.mean(1), 2);
        C.due("11: there, above", x.mean(2), 12);
        C.due("11: there, below", x.mean(3), 1);
    }

    private static void meanRefused() {
        PastOnce x = new PastOnce();
        C.due("11: part -1", x.mean(-1), Long.MIN_VALUE);
        C.due("11: part 5", x.mean(5), Long.MIN_VALUE);
        C.due("11: none, above", x.mean(0), 0);
        C.due("11: none, below", x.mean(1), 1);
        for (int part = 2; part <= 4; part++) {
            C.due("11: no DISHES", x.mean(part), PastOnce.NOT);
        }
    }

    private static void greatestMean() {
        PastOnce x = new PastOnce();
        x.mend(0, 8, 60);
        for (int i = 0; i < 9; i++) {
            x.dish(201, 0);
            x.mend(i, 1, 0);
            x.mend(i, 3, 9);
        }
        C.due("11: 60 spoons at 20", x.mean(0), 1200);
        C.due("11: for sure", x.mean(1), 1);
        for (int i = 0; i < 9; i++) {
            x.mend(i, 3, 1);
            x.mend(i, 7, 11);
        }
        C.due("11: 9 at 20 by 11/12, above", x.mean(0), 165);
        C.due("11: 9 at 20 by 11/12, below", x.mean(1), 1);
    }

    private static void thinkingChangesNothing() {
        PastOnce x = with(53, 84, 122);
        Check.bytes(x, 0, 0, 1, 2, 3);
        int spoons = x.count(1);
        x.best(-1);
        x.sight(1, -1);
        x.byLaw(-1);
        x.mean(0);
        x.left(0, 0);
        x.after(0, 1);
        x.gone(100);
        x.lay(100, -1);
        x.small(100, 5);
        x.drawn(1, 200, 0);
        x.ways(0);
        x.judge(0);
        C.due("8 to 21: SPOONS stay", x.count(1), spoons);
        C.due("8 to 21: PLATE stays", x.of(0, 8), 20);
        C.due("8 to 21: no changes", x.count(3), 0);
        C.due("8 to 21: the plate is empty", x.led(1), 0);
    }
}
