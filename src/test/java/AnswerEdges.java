import java.util.ArrayList;
import java.util.List;
import java.util.function.Supplier;

/** Edges of what is answered (Answers, the public face) and of how often an object is used. */
final class AnswerEdges {
    private interface Call {
        long by(PastOnce x);
    }

    private final Edge e;

    AnswerEdges(Edge e) {
        this.e = e;
    }

    void all() {
        constants();
        badFirst();
        amongRefusals();
        voids();
        changeNothingWithNone();
        changeNothingWithSome();
        changeNothingOnShelves();
        changeNothingWhenFull();
        ownMemory();
        lastCall();
    }

    private void constants() {
        e.says("The public face", "public static final int BAD = -1, NOT = -2, FULL = -3, STATE = -5, VOID = -2000000000;");
        e.due("BAD", PastOnce.BAD, -1);
        e.due("NOT", PastOnce.NOT, -2);
        e.due("FULL", PastOnce.FULL, -3);
        e.due("STATE", PastOnce.STATE, -5);
        e.due("VOID", PastOnce.VOID, -2000000000);
    }

    private void badFirst() {
        e.says("Answers", "Answers, of several the one named first: BAD (-1): no such number, or it is not as said; NOT (-2): as told; FULL (-3); STATE (-5): as told;");
        PastOnce full = full();
        e.due("dish: BAD ahead of FULL", full.dish(53, 5), Edge.BAD);
        e.due("feed: BAD ahead of FULL", full.feed(256), Edge.BAD);
        e.due("body: BAD ahead of FULL", full.body(8), Edge.BAD);
        e.due("lay: BAD ahead of STATE", full.lay(14, -1), Edge.BAD);
        e.due("lay: BAD ahead of STATE", full.lay(11, 9), Edge.BAD);
        e.due("dish: FULL", full.dish(53, 4), Edge.FULL);
        e.due("feed: FULL", full.feed(255), Edge.FULL);
        e.due("body: FULL", full.body(7), Edge.FULL);
        e.due("lay: STATE", full.lay(13, 8), Edge.STATE);
        PastOnce some = some();
        e.due("small: BAD ahead of NOT", some.small(14, 0), Edge.BAD);
        e.due("small: NOT", some.small(13, 0), Edge.NOT);
        e.due("mean: BAD ahead of NOT", new PastOnce().mean(5), Edge.NO_NUMBER);
        e.due("mean: NOT", new PastOnce().mean(4), Edge.NOT);
    }

    private void amongRefusals() {
        e.says("Answers", "-11 to -14.");
        PastOnce x = some();
        e.due("dishes: BAD ahead of -12", x.dishes(3, 0, 10), Edge.BAD);
        e.due("left: BAD ahead of -11", x.left(0, 5), Edge.BAD);
        e.due("left: BAD ahead of -12", x.left(3, -1), Edge.BAD);
        e.due("left: -11", x.left(0, 4), Edge.NOTHING);
        e.due("left: -12", x.left(3, 4), Edge.OTHER);
        e.due("keep: BAD", x.keep(6, 8), Edge.BAD);
        e.due("row: BAD ahead of -14, of a sort", x.row(0, 5, -1), Edge.BAD);
        e.due("row: BAD ahead of -14, of a SHELF", x.row(-1, 0, -1), Edge.BAD);
        e.due("row: -14", x.row(0, 4, -1), Edge.NO_SIZE);
        e.due("put: BAD ahead of -13", x.put(-1, -1, 1), Edge.BAD);
        e.due("put: -11 ahead of -13", x.put(0, -1, 1), Edge.NOTHING);
        e.due("put: -12 ahead of -13", x.put(1, -1, 1), Edge.OTHER);
        e.due("put: -13", x.put(2, -1, 1), Edge.NO_PLACE);
        e.due("shift: BAD ahead of -11", x.shift(0, 0, 6, 0, 1), Edge.BAD);
        e.due("shift: -11 ahead of -12", x.shift(1, 0, 0, 0, 1), Edge.NOTHING);
        e.due("shift: -11 ahead of -12, the other way", x.shift(0, 0, 1, 0, 1), Edge.NOTHING);
        e.due("shift: -12 ahead of -13", x.shift(2, -1, 3, 0, 1), Edge.OTHER);
        e.due("shift: -13", x.shift(2, -1, 2, 0, 1), Edge.NO_PLACE);
        e.due("taken: BAD ahead of -11", x.taken(0, 8), Edge.BAD);
        e.due("taken: BAD ahead of -12", x.taken(2, -1), Edge.BAD);
        e.due("taken: -11", x.taken(0, 7), Edge.NOTHING);
        e.due("taken: -12", x.taken(2, 7), Edge.OTHER);
    }

    private void voids() {
        e.says("Answers", "VOID is -2000000000.");
        PastOnce x = some();
        e.due("best", x.best(-3), -2000000000);
        e.due("sight", x.sight(9, -1), -2000000000);
        e.due("byLaw", x.byLaw(-2), -2000000000);
        e.due("after", x.after(0, 0), -2000000000);
        e.due("drawn", x.drawn(1, 14, 0), -2000000000);
        e.due("led", x.led(6), -2000000000);
        e.due("take", new PastOnce().take(), -2000000000);
    }

    /** Five DISHES, a change that may be done again, a go begun, an image; SHELVES: nothing, a BODY, bytes, longs, nothing, booleans. */
    private static PastOnce some() {
        return rich(5, 8, 3);
    }

    /** As many DISHES, BODIES and bytes as there can be. */
    private static PastOnce full() {
        return rich(9, 50, 120);
    }

    private static PastOnce rich(int dishes, int bodies, int bytes) {
        PastOnce x = new PastOnce();
        for (int i = 0; i < dishes; i++) {
            x.dish(10 * (3 + i) + 1 + i % 3, i % 5);
        }
        Check.tell(x, "t<2");
        for (int i = 0; i < bytes; i++) {
            x.feed(i % 2 == 0 ? 'w' : '+');
        }
        for (int i = 0; i < bodies; i++) {
            x.body(i % 8);
        }
        x.mend(0, 5, 1);
        x.mend(3, 9, 1);
        x.mend(0, 8, 15);
        x.undo();
        x.keep(1, 5);
        Check.bytes(x, 2, 1, 0, 3);
        x.row(3, 3, 2);
        x.put(3, 1, -5);
        x.row(5, 4, 1);
        x.put(5, 0, 1);
        x.take();
        x.goOn();
        x.image();
        x.take();
        x.act(1, 3, 5);
        return x;
    }

    /** All that can be asked of an object, and what it does then. */
    private static List<Long> told(PastOnce x) {
        List<Long> all = new ArrayList<>();
        int dishes = x.count(0);
        for (int what = 0; what <= 9; what++) {
            int numbers = what == 8 ? 1 : what == 9 ? 5 : dishes;
            for (int number = 0; number < numbers; number++) {
                all.add((long) x.of(number, what));
            }
        }
        for (int what = 0; what <= 5; what++) {
            all.add((long) x.led(what));
            all.add((long) x.count(what));
            all.add((long) x.taken(what, 0));
            for (int i = 0; i < 3; i++) {
                all.add(x.element(what, i));
            }
        }
        for (int i = 0; i < 10; i++) {
            all.add((long) x.trace(i));
        }
        all.add((long) x.best(-1));
        all.add((long) x.byLaw(-1));
        all.add(x.mean(0));
        tellDeeds(x, all);
        return all;
    }

    private static void tellDeeds(PastOnce x, List<Long> all) {
        all.add((long) x.take());
        all.add((long) x.back());
        for (int what = 0; what <= 5; what++) {
            all.add((long) x.led(what));
        }
        all.add((long) x.count(1));
        all.add((long) x.take());
        all.add((long) x.goOn());
        all.add((long) x.take());
        all.add((long) x.led(2));
        for (int i = 0; i < 2; i++) {
            all.add((long) x.redo());
        }
        for (int i = 0; i < 4; i++) {
            all.add((long) x.undo());
        }
        all.add((long) x.of(0, 8));
        all.add((long) x.law());
        all.add((long) x.byLaw(-1));
    }

    private void nothingBy(String call, Supplier<PastOnce> made, Call refused, long due) {
        PastOnce x = made.get();
        e.due(call, refused.by(x), due);
        List<Long> with = told(x);
        List<Long> without = told(made.get());
        int unlike = with.size() == without.size() ? 0 : 1;
        for (int i = 0; i < Math.min(with.size(), without.size()); i++) {
            unlike += with.get(i).equals(without.get(i)) ? 0 : 1;
        }
        e.due(call + ", what is told otherwise behind it", unlike, 0);
    }

    private void changeNothingWithNone() {
        e.says("Answers", "What is answered so changes nothing.");
        Supplier<PastOnce> none = PastOnce::new;
        nothingBy("mean(2)", none, x -> x.mean(2), Edge.NOT);
        nothingBy("take()", none, PastOnce::take, Edge.VOID);
        nothingBy("goOn()", none, PastOnce::goOn, Edge.STATE);
        nothingBy("back()", none, PastOnce::back, Edge.STATE);
        nothingBy("undo()", none, PastOnce::undo, Edge.STATE);
        nothingBy("redo()", none, PastOnce::redo, Edge.STATE);
        nothingBy("take() of no SPOONS", () -> Laid.line("5 1 3 0 0", "6 1 3 1 0"), PastOnce::take, Edge.VOID);
        nothingBy("take() without room", () -> Laid.on(2, "5 1 3 1 0", "6 1 1 1 0"), PastOnce::take, Edge.VOID);
        nothingBy("take() of a SORT that is barred", () -> {
            PastOnce x = Laid.mended(Laid.line("5 1 3 1 0", "6 1 1 1 0", "7 1 1 1 1"), 0, 9, 1);
            x.take();
            x.goOn();
            return x;
        }, PastOnce::take, Edge.VOID);
    }

    private void changeNothingWithSome() {
        e.says("Answers", "What is answered so changes nothing.");
        int[][] mends = {{0, 0, 21}, {0, 0, -1}, {5, 0, 1}, {-1, 0, 1}, {0, 10, 1}, {0, -1, 1}, {1, 8, 5}, {0, 8, 0}, {0, 8, 61}, {5, 9, 1}, {0, 9, 32}};
        for (int[] m : mends) {
            nothingBy("mend", AnswerEdges::some, x -> x.mend(m[0], m[1], m[2]), Edge.BAD);
        }
        nothingBy("dish(50, 0)", AnswerEdges::some, x -> x.dish(50, 0), Edge.BAD);
        nothingBy("dish(53, 5)", AnswerEdges::some, x -> x.dish(53, 5), Edge.BAD);
        nothingBy("of(5, 0)", AnswerEdges::some, x -> x.of(5, 0), Edge.BAD);
        nothingBy("feed(256)", AnswerEdges::some, x -> x.feed(256), Edge.BAD);
        nothingBy("best(5)", AnswerEdges::some, x -> x.best(5), Edge.VOID);
        nothingBy("sight(9, 0)", AnswerEdges::some, x -> x.sight(9, 0), Edge.VOID);
        nothingBy("byLaw(5)", AnswerEdges::some, x -> x.byLaw(5), Edge.VOID);
        nothingBy("mean(5)", AnswerEdges::some, x -> x.mean(5), Edge.NO_NUMBER);
        nothingBy("gone(14)", AnswerEdges::some, x -> x.gone(14), Edge.BAD);
        nothingBy("lay(11, 5)", AnswerEdges::some, x -> x.lay(11, 5), Edge.BAD);
        nothingBy("small(11, -1)", AnswerEdges::some, x -> x.small(11, -1), Edge.BAD);
        nothingBy("small(11, 0)", AnswerEdges::some, x -> x.small(11, 0), Edge.NOT);
        nothingBy("offers(0, 0, 0)", AnswerEdges::some, x -> x.offers(0, 0, 0), Edge.NO_NUMBER);
        nothingBy("stop(13)", AnswerEdges::some, x -> x.stop(13), Edge.BAD);
        nothingBy("drawn(1, 210, 0)", AnswerEdges::some, x -> x.drawn(1, 210, 0), Edge.VOID);
        nothingBy("led(6)", AnswerEdges::some, x -> x.led(6), Edge.VOID);
        nothingBy("body(8)", AnswerEdges::some, x -> x.body(8), Edge.BAD);
        nothingBy("trace(24)", AnswerEdges::some, x -> x.trace(24), Edge.BAD);
        nothingBy("count(6)", AnswerEdges::some, x -> x.count(6), Edge.BAD);
    }

    private void changeNothingOnShelves() {
        e.says("Answers", "What is answered so changes nothing.");
        int[][] shelves = {{6, Edge.BAD}, {-1, Edge.BAD}, {0, Edge.NOTHING}, {1, Edge.OTHER}, {3, Edge.OTHER}};
        for (int[] s : shelves) {
            nothingBy("left", AnswerEdges::some, x -> x.left(s[0], 0), s[1]);
            nothingBy("judge", AnswerEdges::some, x -> x.judge(s[0]), s[1]);
            nothingBy("ways", AnswerEdges::some, x -> x.ways(s[0]), s[1]);
            nothingBy("after", AnswerEdges::some, x -> x.after(s[0], 1), Edge.VOID);
        }
        nothingBy("judge(2)", AnswerEdges::some, x -> x.judge(2), Edge.NOT);
        nothingBy("dishes(6, 0, 1)", AnswerEdges::some, x -> x.dishes(6, 0, 1), Edge.BAD);
        nothingBy("dishes(2, 0, 10)", AnswerEdges::some, x -> x.dishes(2, 0, 10), Edge.BAD);
        nothingBy("dishes(1, 0, 1)", AnswerEdges::some, x -> x.dishes(1, 0, 1), Edge.OTHER);
        nothingBy("dishes(2, 0, 1)", AnswerEdges::some, x -> x.dishes(2, 0, 1), 0);
        nothingBy("dishes(2, -1, 1)", AnswerEdges::some, x -> x.dishes(2, -1, 1), 0);
        nothingBy("dishes(0, 0, 1)", AnswerEdges::some, x -> x.dishes(0, 0, 1), 0);
        int[][] keeps = {{6, 0}, {-1, -1}, {1, 8}, {2, -2}};
        for (int[] k : keeps) {
            nothingBy("keep", AnswerEdges::some, x -> x.keep(k[0], k[1]), Edge.BAD);
        }
        int[][] rows = {{6, 0, 1, Edge.BAD}, {2, 5, 1, Edge.BAD}, {2, 0, 61, Edge.BAD}, {2, 0, -1, Edge.NO_SIZE}, {1, 3, -1, Edge.NO_SIZE}};
        for (int[] r : rows) {
            nothingBy("row", AnswerEdges::some, x -> x.row(r[0], r[1], r[2]), r[3]);
        }
        int[][] puts = {{6, 0, Edge.BAD}, {0, 0, Edge.NOTHING}, {1, 0, Edge.OTHER}, {2, -1, Edge.NO_PLACE}, {2, 3, Edge.NO_PLACE}};
        for (int[] p : puts) {
            nothingBy("put", AnswerEdges::some, x -> x.put(p[0], p[1], 77), p[2]);
            nothingBy("element", AnswerEdges::some, x -> x.element(p[0], p[1]), Edge.NO_NUMBER);
        }
        int[][] shifts = {{6, 0, 2, 0, 1, Edge.BAD}, {2, 0, 0, 0, 1, Edge.NOTHING}, {2, 0, 1, 0, 1, Edge.OTHER}, {2, 0, 3, 0, 1, Edge.OTHER},
            {2, 0, 2, 1, 3, Edge.NO_PLACE}, {2, 1, 2, 0, 3, Edge.NO_PLACE}, {2, 0, 2, 1, -1, Edge.NO_PLACE}, {2, -1, 2, 0, 2, Edge.NO_PLACE}};
        for (int[] s : shifts) {
            nothingBy("shift", AnswerEdges::some, x -> x.shift(s[0], s[1], s[2], s[3], s[4]), s[5]);
        }
        int[][] takens = {{6, 0, Edge.BAD}, {1, 8, Edge.BAD}, {0, 0, Edge.NOTHING}, {2, 0, Edge.OTHER}, {1, 1, Edge.OTHER}};
        for (int[] t : takens) {
            nothingBy("taken", AnswerEdges::some, x -> x.taken(t[0], t[1]), t[2]);
        }
    }

    private void changeNothingWhenFull() {
        e.says("Answers", "What is answered so changes nothing.");
        nothingBy("dish(53, 0)", AnswerEdges::full, x -> x.dish(53, 0), Edge.FULL);
        nothingBy("body(0)", AnswerEdges::full, x -> x.body(0), Edge.FULL);
        nothingBy("feed(119)", AnswerEdges::full, x -> x.feed(119), Edge.FULL);
        nothingBy("lay(11, -1)", AnswerEdges::full, x -> x.lay(11, -1), Edge.STATE);
        nothingBy("dishes(4, 0, 9)", () -> {
            PastOnce x = full();
            Check.bytes(x, 4, 1, 1, 1, 1);
            return x;
        }, x -> x.dishes(4, 0, 9), 0);
    }

    private void ownMemory() {
        e.says("Answers", "All memory is the class's own.");
        PastOnce one = some();
        PastOnce other = some();
        PastOnce third = new PastOnce();
        List<Long> before = told(some());
        third.dish(209, 4);
        Check.tell(third, "1");
        third.row(2, 0, 60);
        third.take();
        third.image();
        one.best(-1);
        third.best(-1);
        e.due("nothing that another object does is seen", told(one).equals(before) ? 1 : 0, 1);
        e.due("nor what that one told", told(other).equals(before) ? 1 : 0, 1);
    }

    private void lastCall() {
        e.says("What it is", "An object is used for at most 512 calls after it has been made; what later calls answer is free.");
        PastOnce best = new PastOnce();
        best.dish(91, 0);
        for (int call = 2; call <= 508; call += 2) {
            best.mend(0, 8, call % 4 == 0 ? 1 : 60);
            e.due("best, the call " + (call + 1), best.best(-1), call % 4 == 0 ? 9 : 30);
        }
        best.mend(0, 8, 3);
        e.due("best, the call 511", best.best(0), 3);
        e.due("best, the call 512", best.best(-1), 24);
        PastOnce mend = new PastOnce();
        mend.dish(11, 0);
        int was = 10;
        for (int call = 2; call <= 511; call++) {
            e.due("mend, the call " + call, mend.mend(0, 6, call % 99 + 1), was);
            was = call % 99 + 1;
        }
        e.due("undo, the call 512", mend.undo(), 39);
        PastOnce act = new PastOnce();
        act.body(5);
        for (int call = 2; call <= 511; call++) {
            e.due("act, the call " + call, act.act(0, 3, 5), -2 * 6 - (3 - 2) + 1);
        }
        e.due("bodies that ran, the call 512", act.count(5), 10);
        PastOnce go = new PastOnce();
        for (int call = 1; call <= 9; call++) {
            go.dish(11, 0);
        }
        for (int call = 10; call <= 511; call++) {
            e.due("goOn, the call " + call, go.goOn(), (call - 9) % 9 == 0 ? Edge.NOT : (call - 9) % 9);
        }
        e.due("goes that were over, the call 512", go.led(3), (511 - 9) / 9);
    }
}
