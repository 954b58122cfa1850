import java.util.function.Supplier;

/** Edges of Terms 1 (DISHES, PLATE, BARS, what MAY be taken) and of promises 1, 2, 4, 5. */
final class DishEdges {
    private final Edge e;

    DishEdges(Edge e) {
        this.e = e;
    }

    void all() {
        nineDishes();
        worth();
        less();
        space();
        spoons();
        sort();
        runs();
        dear();
        chance();
        furtherSpoons();
        plate();
        bars();
        ifThereIsOne();
        ifNoneBars();
        oneDishAlone();
        ifItFits();
        oneMoreIfItRuns();
        newObject();
        dish();
        dishRefused();
        mend();
        mendRefused();
        of();
    }

    private static PastOnce one() {
        return Laid.line("5 1 3 4 0");
    }

    private void nineDishes() {
        e.says("Terms 1", "DISHES 0 .. 8, in their ORDER along the line");
        PastOnce x = new PastOnce();
        e.due("of(0, 0) of none", x.of(0, 0), Edge.BAD);
        for (int n = 0; n <= 8; n++) {
            e.due("of(n, 0) ahead of it", x.of(n, 0), Edge.BAD);
            e.due("dish", x.dish(10 * n + 1, 0), n);
            e.due("of(n, 0)", x.of(n, 0), n);
        }
        e.due("a tenth", x.dish(91, 0), Edge.FULL);
        e.due("of(9, 0)", x.of(9, 0), Edge.BAD);
        e.due("of(-1, 0)", x.of(-1, 0), Edge.BAD);
        for (int n = 1; n <= 8; n++) {
            e.due("goOn", x.goOn(), n);
            e.due("take", x.take(), n);
        }
        e.due("goOn behind DISH 8", x.goOn(), Edge.NOT);
    }

    // "5 at first" is never seen: dish() and dishes() both tell WORTH.
    private void worth() {
        e.says("Terms 1", "WORTH of a first spoon (0 .. 20; 5 at first)");
        e.between("mend(0, 0, v)", 0, 20, Edge.BAD, v -> one().mend(0, 0, v));
        e.due("take at 0", Laid.mended(one(), 0, 0, 0).take(), 0);
        e.due("take at 1", Laid.mended(one(), 0, 0, 1).take(), 1);
        e.due("take at 19", Laid.mended(one(), 0, 0, 19).take(), 19);
        e.due("take at 20", Laid.mended(one(), 0, 0, 20).take(), 20);
    }

    private void less() {
        e.says("Terms 1", "LESS for each further one (0 .. 9; 1 at first)");
        e.between("mend(0, 1, v)", 0, 9, Edge.BAD, v -> one().mend(0, 1, v));
        PastOnce x = new PastOnce();
        x.dish(53, 0);
        e.due("at first", x.of(0, 1), 1);
        e.due("the first", x.take(), 5);
        e.due("a further one", x.take(), 4);
        x.mend(0, 1, 0);
        e.due("0 less", x.take(), 5);
        x.end();
        x.mend(0, 3, 9);
        x.mend(0, 1, 9);
        e.due("the first", x.take(), 5);
        e.due("9 less", x.take(), -4);
    }

    private void space() {
        e.says("Terms 1", "SPACE of a spoon (1 .. 9; 3 at first)");
        e.between("mend(0, 2, v)", 1, 9, Edge.BAD, v -> one().mend(0, 2, v));
        for (int space = 1; space <= 9; space++) {
            PastOnce x = Laid.mended(one(), 0, 2, space);
            x.take();
            e.due("room left by one of " + space, x.led(2), 20 - space);
        }
    }

    private void spoons() {
        e.says("Terms 1", "SPOONS that are there (0 .. 9; 4 at first)");
        e.between("mend(0, 3, v)", 0, 9, Edge.BAD, v -> one().mend(0, 3, v));
        PastOnce x = new PastOnce();
        x.dish(51, 0);
        e.due("at first", x.of(0, 3), 4);
        for (int k = 0; k < 4; k++) {
            e.due("one of four", x.take(), 5 - k);
        }
        e.due("a fifth", x.take(), Edge.VOID);
        x = Laid.line("20 0 1 9 0");
        for (int k = 0; k < 9; k++) {
            e.due("one of nine", x.take(), 20);
        }
        e.due("a tenth", x.take(), Edge.VOID);
        e.due("take of none", Laid.line("5 1 1 0 0").take(), Edge.VOID);
    }

    private void sort() {
        e.says("Terms 1", "SORT (0 .. 4; 0 at first)");
        e.between("mend(0, 4, v)", 0, 4, Edge.BAD, v -> one().mend(0, 4, v));
        e.between("dish(53, v)", 0, 4, Edge.BAD, v -> new PastOnce().dish(53, v));
        for (int sort = 0; sort <= 4; sort++) {
            PastOnce x = Laid.line("5 1 1 1 " + sort, "5 1 1 1 0");
            x.mend(sort, 9, 1);
            e.due("SORT " + sort + " bars SORT 0", Laid.judged(x, 1, 1), 1);
        }
    }

    private void runs() {
        e.says("Terms 1", "RUNS (0, 1; 0 at first)");
        e.between("mend(0, 5, v)", 0, 1, Edge.BAD, v -> one().mend(0, 5, v));
        PastOnce x = Laid.line("5 1 3 4 0", "5 1 3 4 0");
        e.due("at first", x.of(0, 5), 0);
        x.take();
        x.goOn();
        x.take();
        e.due("room left by two, none RUNS", x.led(2), 14);
        x.end();
        x.mend(0, 5, 1);
        x.take();
        x.goOn();
        x.take();
        e.due("room left by two, the first RUNS", x.led(2), 13);
    }

    private void dear() {
        e.says("Terms 1", "DEAR (0 .. 99; 10 at first: what a spoon costs the host)");
        e.between("mend(0, 6, v)", 0, 99, Edge.BAD, v -> one().mend(0, 6, v));
        e.due("a spoon at first", one().gone(11), 10);
        e.due("a spoon at 0", Laid.mended(one(), 0, 6, 0).gone(11), 0);
        e.due("a spoon at 99", Laid.mended(one(), 0, 6, 99).gone(11), 99);
        e.due("four at 99", Laid.mended(one(), 0, 6, 99).gone(13), 4 * 99);
    }

    private void chance() {
        e.says("Terms 1", "CHANCE (0 .. 12: in so many of twelve it is still there; 12 at first)");
        e.between("mend(0, 7, v)", 0, 12, Edge.BAD, v -> one().mend(0, 7, v));
        int[][] due = {{0, 0, 1}, {1, 1, 12}, {11, 11, 12}, {12, 1, 1}};
        for (int[] d : due) {
            PastOnce x = Laid.mended(Laid.line("1 0 1 1 0"), 0, 7, d[0]);
            e.due("mean(0) at " + d[0], x.mean(0), d[1]);
            e.due("mean(1) at " + d[0], x.mean(1), d[2]);
        }
        e.due("at first", one().of(0, 7), 12);
    }

    private void furtherSpoons() {
        e.says("Terms 1", "The i-th spoon of a DISH (0 on) is worth WORTH less i times LESS (it may be below 0).");
        PastOnce x = Laid.line("4 2 1 4 0");
        e.due("spoon 0", x.take(), 4);
        e.due("spoon 1", x.take(), 2);
        e.due("spoon 2", x.take(), 0);
        e.due("spoon 3", x.take(), -2);
        e.due("all in deed", x.led(0), 4);
        e.due("all, drawn, greedy", Laid.line("4 2 1 4 0").drawn(1, 13, 0), 4);
        e.due("below 0, drawn, greedy", Laid.line("0 9 1 9 0").drawn(1, 13, 0), -9 * 36);
        e.due("below 0, by a law", Laid.withLaw(Laid.line("0 9 1 9 0"), "1").byLaw(-1), -9 * 36);
        e.due("of each DISH from its first on", Laid.line("4 2 1 2 0", "4 2 1 2 0").drawn(1, 13, 0), 12);
    }

    private void plate() {
        e.says("Terms 1", "PLATE (1 .. 60; 20 at first): its room.");
        e.between("mend(0, 8, v)", 1, 60, Edge.BAD, v -> new PastOnce().mend(0, 8, v));
        PastOnce x = Laid.line("1 0 1 9 0", "1 0 9 9 0");
        e.due("best(-2) of nothing", new PastOnce().best(-2), 20);
        e.due("at first", x.best(-2), 20 - 9 - 9);
        x.mend(0, 8, 1);
        e.due("room for one", x.best(-1), 1);
        e.due("none left", x.best(-2), 0);
        x.mend(0, 8, 60);
        e.due("9 and 5 times 9", x.best(-1), 14);
        e.due("room left", x.best(-2), 60 - 9 - 45);
    }

    private void bars() {
        e.says("Terms 1", "BARS (0 .. 31; of a SORT: SORTS (bits) that may not lie with it; 0 at first; either way)");
        e.between("mend(0, 9, v)", 0, 31, Edge.BAD, v -> new PastOnce().mend(0, 9, v));
        e.between("mend(v, 9, 1)", 0, 4, Edge.BAD, v -> new PastOnce().mend(v, 9, 1));
        for (int a = 0; a <= 4; a++) {
            for (int b = 0; b <= 4; b++) {
                PastOnce x = Laid.line("5 1 1 1 " + a, "5 1 1 1 " + b);
                e.due("0 at first", x.of(a, 9), 0);
                e.due("at first all lie together", Laid.judged(x, 1, 1), Edge.NOT);
                x.mend(a, 9, 1 << b);
                e.due(a + " bars " + b, Laid.judged(x, 1, 1), 1);
                x.mend(a, 9, 31 - (1 << b));
                e.due(a + " bars all but " + b, Laid.judged(x, 1, 1), Edge.NOT);
                x.mend(a, 9, 0);
                x.mend(b, 9, 1 << a);
                e.due(a + " is barred by " + b, Laid.judged(x, 1, 1), 1);
            }
        }
    }

    /** As many of each DISH as MAY be, by each way that takes all: in deed, judged, greedy, by a law. */
    private void most(String what, Supplier<PastOnce> laid, int... counts) {
        PastOnce x = laid.get();
        Check.tell(x, "1");
        for (int i = 0; i < counts.length; i++) {
            e.due(what + ", greedy, DISH " + i, Laid.taken(x, Laid.GREEDY, i), counts[i]);
            e.due(what + ", by a law, DISH " + i, x.byLaw(i), counts[i]);
        }
        e.due(what + ", judged", Laid.judged(x, counts), Edge.NOT);
        for (int i = 0; i < counts.length; i++) {
            int[] more = counts.clone();
            more[i]++;
            e.due(what + ", judged, one more of " + i, Laid.judged(x, more), i);
        }
        for (int i = 0; i < counts.length; i++) {
            for (int k = 0; k < counts[i]; k++) {
                e.due(what + ", in deed, VOID for " + i, x.take() == Edge.VOID ? 1 : 0, 0);
            }
            e.due(what + ", in deed, one more of " + i, x.take(), Edge.VOID);
            x.goOn();
        }
    }

    private void ifThereIsOne() {
        e.says("Terms 1", "A spoon MAY be taken of a DISH, if there is one");
        most("none", () -> Laid.line("5 1 1 0 0"), 0);
        most("one", () -> Laid.line("5 1 1 1 0"), 1);
        most("nine", () -> Laid.line("5 1 1 9 0"), 9);
        most("none of the first", () -> Laid.line("5 1 1 0 0", "5 1 1 2 0"), 0, 2);
    }

    private void ifNoneBars() {
        e.says("Terms 1", "if none lies on the plate of a SORT that BARS (or is barred by) its own");
        most("BARS", () -> Laid.mended(Laid.line("5 1 3 4 0", "5 1 3 4 1"), 0, 9, 2), 4, 0);
        most("is barred", () -> Laid.mended(Laid.line("5 1 3 4 0", "5 1 3 4 1"), 1, 9, 1), 4, 0);
        most("bars another one", () -> Laid.mended(Laid.line("5 1 3 4 0", "5 1 3 4 1"), 0, 9, 4), 4, 2);
        most("none lies there", () -> Laid.mended(Laid.line("5 1 3 0 0", "5 1 3 4 1"), 0, 9, 2), 0, 4);
        most("two DISHES on", () -> Laid.mended(Laid.line("5 1 3 1 0", "5 1 3 1 1", "5 1 3 1 2"), 0, 9, 4), 1, 1, 0);
        most("a barred one does not lie there", () -> Laid.mended(Laid.mended(Laid.line("5 1 3 1 0", "5 1 3 1 1", "5 1 3 1 2"), 0, 9, 2), 1, 9, 4),
                1, 0, 1);
    }

    private void oneDishAlone() {
        e.says("Terms 1", "(its own SORT BARRED by itself: one DISH of it alone)");
        most("all spoons of the first", () -> Laid.mended(Laid.line("5 1 3 4 2", "5 1 3 4 2"), 2, 9, 4), 4, 0);
        most("none of the first", () -> Laid.mended(Laid.line("5 1 3 0 2", "5 1 3 4 2", "5 1 3 4 2"), 2, 9, 4), 0, 4, 0);
        most("another SORT lies with it", () -> Laid.mended(Laid.line("5 1 3 1 2", "5 1 3 4 2", "5 1 3 4 3"), 2, 9, 4), 1, 0, 4);
    }

    private void ifItFits() {
        e.says("Terms 1", "and if it fits");
        most("room for just one", () -> Laid.on(3, "5 1 3 4 0"), 1);
        most("one less", () -> Laid.on(2, "5 1 3 4 0"), 0);
        most("room for just two", () -> Laid.on(6, "5 1 3 4 0"), 2);
        most("one less than two", () -> Laid.on(5, "5 1 3 4 0"), 1);
        most("what is left fits the next", () -> Laid.on(5, "5 1 3 4 0", "5 1 2 4 0"), 1, 1);
        most("what is left does not", () -> Laid.on(4, "5 1 3 4 0", "5 1 2 4 0"), 1, 0);
    }

    private void oneMoreIfItRuns() {
        e.says("Terms 1", "it takes SPACE, and 1 more, if one that RUNS lies there (of an earlier DISH).");
        most("just 3 and 4", () -> Laid.mended(Laid.on(7, "5 1 3 1 0", "5 1 3 1 0"), 0, 5, 1), 1, 1);
        most("one less", () -> Laid.mended(Laid.on(6, "5 1 3 1 0", "5 1 3 1 0"), 0, 5, 1), 1, 0);
        most("not of its own DISH", () -> Laid.mended(Laid.on(6, "5 1 3 4 0"), 0, 5, 1), 2);
        most("not of a later DISH", () -> Laid.mended(Laid.on(6, "5 1 3 1 0", "5 1 3 1 0"), 1, 5, 1), 1, 1);
        most("none of it lies there", () -> Laid.mended(Laid.on(6, "5 1 3 0 0", "5 1 3 4 0"), 0, 5, 1), 0, 2);
        most("two that run: 1 more all the same",
                () -> Laid.mended(Laid.mended(Laid.on(5, "5 1 1 1 0", "5 1 1 1 0", "5 1 1 1 0"), 0, 5, 1), 1, 5, 1), 1, 1, 1);
        most("one less than these",
                () -> Laid.mended(Laid.mended(Laid.on(4, "5 1 1 1 0", "5 1 1 1 0", "5 1 1 1 0"), 0, 5, 1), 1, 5, 1), 1, 1, 0);
        most("each further spoon, too", () -> Laid.mended(Laid.on(11, "5 1 3 1 0", "5 1 3 4 0"), 0, 5, 1), 1, 2);
    }

    private void newObject() {
        e.says("Promise 1", "An empty table.");
        PastOnce x = new PastOnce();
        for (int what = 0; what <= 5; what++) {
            e.due("count(" + what + ")", x.count(what), 0);
        }
        int[] led = {0, 0, 20, 0, 0, 0};
        for (int what = 0; what <= 5; what++) {
            e.due("led(" + what + ")", x.led(what), led[what]);
        }
        for (int shelf = 0; shelf <= 5; shelf++) {
            e.due("taken(" + shelf + ", 0)", x.taken(shelf, 0), Edge.NOTHING);
        }
        e.due("back", x.back(), Edge.STATE);
        e.due("undo", x.undo(), Edge.STATE);
        e.due("redo", x.redo(), Edge.STATE);
        e.due("trace(0)", x.trace(0), Edge.BAD);
        e.due("an object of its own", Laid.line("5 1 3 4 0").count(0) + x.count(0), 1);
    }

    private void dish() {
        e.says("Promise 2", "A DISH (ws: 10 WORTH and SPACE; WORTH 0 .. 20), its SORT, last in the line: its number.");
        int[] ws = {1, 9, 11, 19, 201, 209};
        for (int v : ws) {
            PastOnce x = one();
            e.due("dish(" + v + ", 4)", x.dish(v, 4), 1);
            e.due("WORTH", x.of(1, 0), v / 10);
            e.due("SPACE", x.of(1, 2), v % 10);
            e.due("SORT", x.of(1, 4), 4);
            e.due("the one ahead stays", x.of(0, 0), 5);
        }
    }

    private void dishRefused() {
        e.says("Promise 2", "BAD, FULL: 9.");
        int[] ws = {0, -1, -9, -10, -11, 10, 200, 210, 211, 219, 220, 2001, Integer.MAX_VALUE, Integer.MIN_VALUE};
        for (int v : ws) {
            e.due("dish(" + v + ", 0)", new PastOnce().dish(v, 0), Edge.BAD);
        }
        PastOnce x = new PastOnce();
        for (int n = 0; n < 9; n++) {
            e.due("one of nine", x.dish(53, n % 5), n);
        }
        e.due("a tenth", x.dish(53, 0), Edge.FULL);
        e.due("a tenth that is not so", x.dish(50, 0), Edge.BAD);
        e.due("a tenth of no SORT", x.dish(53, 5), Edge.BAD);
        e.due("there are nine", x.count(0), 9);
    }

    private void mend() {
        e.says("Promise 4", "WORTH (what 0), LESS (1), SPACE (2), SPOONS (3), SORT (4), RUNS (5), DEAR (6), CHANCE (7) of a DISH,"
                + " PLATE (8; number 0), BARS (9) of a SORT becomes v: what it was.");
        int[] first = {5, 1, 3, 4, 0, 0, 10, 12, 20, 0};
        int[] least = {0, 0, 1, 0, 0, 0, 0, 0, 1, 0};
        int[] most = {20, 9, 9, 9, 4, 1, 99, 12, 60, 31};
        for (int what = 0; what <= 9; what++) {
            PastOnce x = new PastOnce();
            x.dish(53, 0);
            e.due("what " + what + ", to the least", x.mend(0, what, least[what]), first[what]);
            e.due("what " + what + ", it is so", x.of(0, what), least[what]);
            e.due("what " + what + ", to the most", x.mend(0, what, most[what]), least[what]);
            e.due("what " + what + ", it is so", x.of(0, what), most[what]);
            e.due("what " + what + ", to what it is", x.mend(0, what, most[what]), most[what]);
            for (int other = 0; other <= 9; other++) {
                e.due("what " + what + ", " + other + " stays", x.of(0, other), other == what ? most[what] : first[other]);
            }
        }
    }

    private void mendRefused() {
        e.says("Promise 4", "BAD.");
        e.between("mend(0, what, 1)", 0, 9, Edge.BAD, what -> one().mend(0, what, 1));
        for (int what = 0; what <= 7; what++) {
            int w = what;
            e.between("mend(n, " + w + ", 1) of three", 0, 2, Edge.BAD, n -> Laid.line("5 1 3 4 0", "5 1 3 4 0", "5 1 3 4 0").mend(n, w, 1));
            e.due("mend(0, " + w + ", 1) of none", new PastOnce().mend(0, w, 1), Edge.BAD);
        }
        e.between("mend(n, 8, 1)", 0, 0, Edge.BAD, n -> Laid.line("5 1 3 4 0", "5 1 3 4 0").mend(n, 8, 1));
        e.between("mend(n, 9, 1)", 0, 4, Edge.BAD, n -> one().mend(n, 9, 1));
        e.due("a number that is not so, to what is not so", one().mend(1, 0, 21), Edge.BAD);
    }

    private void of() {
        e.says("Promise 5", "As of mend() (0 to 9). BAD.");
        int[] due = {7, 1, 4, 4, 2, 0, 10, 12, 20, 0};
        PastOnce x = new PastOnce();
        x.dish(74, 2);
        for (int what = 0; what <= 9; what++) {
            e.due("of(0, " + what + ")", x.of(0, what), due[what]);
            e.due("of(-1, " + what + ")", x.of(-1, what), Edge.BAD);
            e.due("of(1, " + what + ")", x.of(1, what), what == 9 ? 0 : Edge.BAD);
            e.due("of(4, " + what + ")", x.of(4, what), what == 9 ? 0 : Edge.BAD);
            e.due("of(5, " + what + ")", x.of(5, what), Edge.BAD);
            e.due("of none", new PastOnce().of(0, what), what == 8 ? 20 : what == 9 ? 0 : Edge.BAD);
        }
        e.between("of(0, what)", 0, 9, Edge.BAD, what -> x.of(0, what));
    }
}
