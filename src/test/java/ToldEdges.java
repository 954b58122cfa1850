/** Edges of the TOLD PLATE and of DRAWN (Terms 4) and of promises 19 to 21. */
final class ToldEdges {
    private final Edge e;

    ToldEdges(Edge e) {
        this.e = e;
    }

    void all() {
        judged();
        lacks();
        behind();
        belowZero();
        not();
        ways();
        lines();
        seed();
        itIsThere();
        goesByAWay();
        judgeRefused();
        drawnOf();
    }

    private void judged() {
        e.says("Terms 4", "TOLD PLATE: a ROW of bytes: how many spoons of each DISH: JUDGED: the first DISH of which so many MAY not be taken");
        String[] three = {"5 1 3 2 0", "5 1 3 2 1", "5 1 3 2 2"};
        e.due("as many as are there", Laid.judged(Laid.line(three), 2, 2, 2), Edge.NOT);
        e.due("one more of 0", Laid.judged(Laid.line(three), 3, 0, 0), 0);
        e.due("one more of 1", Laid.judged(Laid.line(three), 0, 3, 0), 1);
        e.due("one more of 2", Laid.judged(Laid.line(three), 0, 0, 3), 2);
        e.due("one more of 1 and of 2", Laid.judged(Laid.line(three), 2, 3, 3), 1);
        e.due("far more", Laid.judged(Laid.line(three), 127, 0, 0), 0);
        e.due("just the room", Laid.judged(Laid.on(18, three), 2, 2, 2), Edge.NOT);
        e.due("one less", Laid.judged(Laid.on(17, three), 2, 2, 2), 2);
        e.due("just the room for four", Laid.judged(Laid.on(12, three), 2, 2, 0), Edge.NOT);
        e.due("one less than for four", Laid.judged(Laid.on(11, three), 2, 2, 0), 1);
        e.due("no room for one", Laid.judged(Laid.on(2, three), 0, 0, 1), 2);
        e.due("barred", Laid.judged(Laid.mended(Laid.line(three), 2, 9, 1), 1, 1, 1), 2);
        e.due("barred, none of the first", Laid.judged(Laid.mended(Laid.line(three), 2, 9, 1), 0, 1, 1), Edge.NOT);
        e.due("barred, none of the last", Laid.judged(Laid.mended(Laid.line(three), 2, 9, 1), 1, 1, 0), Edge.NOT);
        e.due("it RUNS, just the room", Laid.judged(Laid.mended(Laid.on(7, three), 0, 5, 1), 1, 0, 1), Edge.NOT);
        e.due("it RUNS, one less", Laid.judged(Laid.mended(Laid.on(6, three), 0, 5, 1), 1, 0, 1), 2);
        e.due("it RUNS, none of it", Laid.judged(Laid.mended(Laid.on(6, three), 0, 5, 1), 0, 1, 1), Edge.NOT);
        e.due("worth below 0 is no harm", Laid.judged(Laid.line("0 9 1 9 0"), 9), Edge.NOT);
    }

    private void lacks() {
        e.says("Terms 4", "(what lacks is 0;");
        String[] three = {"5 1 3 2 0", "5 1 3 2 1", "5 1 3 2 2"};
        e.due("a ROW of none", Laid.judged(Laid.line(three)), Edge.NOT);
        e.due("one byte", Laid.judged(Laid.line(three), 2), Edge.NOT);
        e.due("one byte, too many", Laid.judged(Laid.line(three), 3), 0);
        e.due("two bytes", Laid.judged(Laid.line(three), 2, 2), Edge.NOT);
        e.due("two bytes, too many of 1", Laid.judged(Laid.line(three), 0, 3), 1);
        PastOnce again = Laid.line(three);
        e.due("a ROW of three", Laid.judged(again, 2, 3, 3), 1);
        e.due("a ROW of one where that was", Laid.judged(again, 2), Edge.NOT);
        e.due("a ROW of none where that was", Laid.judged(again), Edge.NOT);
        PastOnce x = Laid.line("2 1 1 2 0", "0 1 1 2 1");
        e.due("ways by three bytes", Laid.ways(x, 2, 2, 2), 1 << Laid.GREEDY);
        e.due("ways by one byte", Laid.ways(x, 2), 1 << Laid.BEST | 1 << Laid.BY_LAW);
        e.due("ways by two bytes", Laid.ways(x, 2, 0), 1 << Laid.BEST | 1 << Laid.BY_LAW);
        e.due("ways by none", Laid.ways(Laid.line("0 0 1 2 0")), 1 << Laid.BEST | 1 << Laid.BY_LAW);
    }

    private void behind() {
        e.says("Terms 4", "what is behind the DISHES does not count;");
        PastOnce x = Laid.line("5 1 3 2 0", "5 1 3 2 1");
        e.due("99 of what is not there", Laid.judged(x, 2, 2, 99), Edge.NOT);
        e.due("below 0 of what is not there", Laid.judged(x, 2, 2, -1), Edge.NOT);
        e.due("too many of the last that is there", Laid.judged(x, 2, 3, 0), 1);
        e.due("sixty bytes", Laid.judged(x, new int[60]), Edge.NOT);
        e.due("no DISHES", Laid.judged(new PastOnce(), 1, -1, 99), Edge.NOT);
        PastOnce nine = LawEdges.nineDishes();
        e.due("behind nine DISHES", Laid.judged(nine, 1, 1, 1, 1, 1, 1, 1, 1, 1, 2), Edge.NOT);
        e.due("the ninth counts", Laid.judged(nine, 1, 1, 1, 1, 1, 1, 1, 1, 2), 8);
        e.due("ways, 99 of what is not there", Laid.ways(x, 2, 2, 99), Laid.ways(x, 2, 2));
        e.due("ways, all but shy", Laid.ways(x, 2, 2, 99), 1 << Laid.BEST | 1 << Laid.BY_LAW | 1 << Laid.GREEDY);
        e.due("ways, behind nine DISHES", Laid.ways(nine, 1, 1, 1, 1, 1, 1, 1, 1, 1, 2), 15);
    }

    private void belowZero() {
        e.says("Terms 4", "below 0: not so);");
        PastOnce x = Laid.line("5 1 3 2 0", "5 1 3 2 1");
        e.due("-1 of 0", Laid.judged(x, -1, 0), 0);
        e.due("-1 of 1", Laid.judged(x, 0, -1), 1);
        e.due("-128 of 1", Laid.judged(x, 2, -128), 1);
        e.due("0 of each", Laid.judged(x, 0, 0), Edge.NOT);
        e.due("-1 of what has no SPOONS", Laid.judged(Laid.line("5 1 3 0 0"), -1), 0);
        e.due("ways", Laid.ways(Laid.line("5 1 3 0 0"), -1), 0);
    }

    private void not() {
        e.says("Terms 4", "NOT. WAYS: which ways (bits: 0 BEST, 1 shy, 2 BY LAW, 3 greedy) take just that.");
        PastOnce x = Laid.withLaw(Laid.line("2 1 1 5 0"), "t<3");
        int[] due = {0, 2, 1, 4, 0, 8, 0};
        for (int told = 0; told < due.length; told++) {
            e.due("ways by " + told, Laid.ways(x, told), due[told]);
            e.due("judged by " + told, Laid.judged(x, told), told <= 5 ? Edge.NOT : 0);
        }
        PastOnce two = Laid.line("5 0 1 1 0", "5 0 1 1 0");
        e.due("all of all", Laid.ways(two, 1, 1), 15);
        e.due("the first alone", Laid.ways(two, 1, 0), 0);
        e.due("the last alone", Laid.ways(two, 0, 1), 0);
    }

    private void ways() {
        e.says("Promise 20", "WAYS, as bits. BAD, -11, -12.");
        e.due("no DISHES", Laid.ways(new PastOnce()), 15);
        e.due("no SPOONS", Laid.ways(Laid.line("5 1 1 0 0")), 15);
        e.due("one that no way takes", Laid.ways(Laid.line("5 1 1 0 0"), 1), 0);
        e.due("sixty bytes", Laid.ways(Laid.line("5 1 1 0 0"), new int[60]), 15);
        refused("ways", PastOnce::ways);
    }

    private interface Shelved {
        int by(PastOnce x, int shelf);
    }

    private void refused(String call, Shelved asked) {
        e.between(call + "(shelf)", 0, 5, Edge.BAD, shelf -> asked.by(Laid.line("5 1 1 4 0"), shelf));
        for (int shelf = 0; shelf <= 5; shelf++) {
            PastOnce x = Laid.line("5 1 1 4 0");
            e.due(call + ", nothing is there", asked.by(x, shelf), Edge.NOTHING);
            for (int sort = 1; sort <= 4; sort++) {
                x.row(shelf, sort, 0);
                e.due(call + ", a ROW of sort " + sort, asked.by(x, shelf), Edge.OTHER);
            }
            x.body(0);
            x.keep(shelf, 0);
            e.due(call + ", a BODY", asked.by(x, shelf), Edge.OTHER);
        }
    }

    private void lines() {
        e.says("Terms 4", "DRAWN: n lines (1 .. 20) by a SEED, in thought");
        for (int n = 1; n <= 20; n++) {
            PastOnce x = Laid.line("7 2 1 2 0");
            e.due(n + " lines, worth", x.drawn(5, 10 * n, 0), 12 * n);
            e.due(n + " lines, spoons", x.drawn(5, 10 * n, 1), 2 * n);
            e.due("in thought", x.of(0, 3), 2);
        }
        e.between("drawn(5, 10 n, 0)", 1, 20, Edge.VOID, n -> Laid.line("7 2 1 2 0").drawn(5, 10 * n, 0));
        e.due("no DISHES, worth", new PastOnce().drawn(5, 200, 0), 0);
        e.due("no DISHES, spoons", new PastOnce().drawn(5, 200, 1), 0);
    }

    private static int next(int z) {
        return z * 1103515245 + 12345;
    }

    private void seed() {
        e.says("Terms 4", "z = z * 1103515245 + 12345 (an int; SEED at first) ahead of each DISH");
        int[] seeds = {0, 1, -1, 5, 999999999, Integer.MIN_VALUE, Integer.MIN_VALUE + 1, Integer.MAX_VALUE};
        for (int seed : seeds) {
            PastOnce x = Laid.line("1 0 1 1 0", "2 0 1 1 0", "4 0 1 1 0", "8 0 1 1 0");
            for (int i = 0; i < 4; i++) {
                x.mend(i, 7, 6);
            }
            int z = seed;
            int all = 0;
            for (int n = 1; n <= 20; n++) {
                for (int i = 0; i < 4; i++) {
                    z = next(z);
                    all += (z >>> 8) % 12 < 6 ? 1 << i : 0;
                }
                e.due(n + " lines by " + seed, x.drawn(seed, 10 * n + 3, 0), all);
            }
        }
    }

    private void itIsThere() {
        e.says("Terms 4", "it is there, if (z >>> 8) % 12 is below its CHANCE");
        boolean[] met = new boolean[12];
        int seeds = 0;
        for (int seed = -60; seed < 60; seed++) {
            int drawn = (next(seed) >>> 8) % 12;
            met[drawn] = true;
            PastOnce x = Laid.line("1 0 1 1 0");
            int[] chances = {0, drawn - 1, drawn, drawn + 1, 12};
            for (int chance : chances) {
                if (chance >= 0) {
                    x.mend(0, 7, chance);
                    e.due(drawn + " was drawn, CHANCE " + chance, x.drawn(seed, 13, 1), drawn < chance ? 1 : 0);
                }
            }
            seeds += next(seed) < 0 ? 1 : 0;
        }
        for (int drawn = 0; drawn < 12; drawn++) {
            e.due("a SEED draws " + drawn, met[drawn] ? 1 : 0, 1);
        }
        e.due("some z are below 0, some are not", seeds > 10 && seeds < 110 ? 1 : 0, 1);
    }

    private void goesByAWay() {
        e.says("Terms 4", "one goes by a way (0 .. 3, BEST of what is there): all that is worth; how many spoons.");
        PastOnce x = Laid.withLaw(Laid.line("2 1 1 5 0"), "t<3");
        int[] worth = {3, 2, 3, 0};
        int[] spoons = {2, 1, 3, 5};
        e.between("drawn(1, 10 + way, 0)", 0, 3, Edge.VOID, way -> x.drawn(1, 10 + way, 0));
        for (int way = 0; way <= 3; way++) {
            e.due("worth by way " + way, x.drawn(1, 10 + way, 0), worth[way]);
            e.due("spoons by way " + way, x.drawn(1, 10 + way, 1), spoons[way]);
        }
        PastOnce y = Laid.on(1, "5 0 1 1 0", "9 0 1 1 0");
        e.due("both are there", y.drawn(1, 10, 0), 9);
        y.mend(1, 7, 0);
        e.due("the great one is not there", y.drawn(1, 10, 0), 5);
        e.due("though it would be known as there", y.best(-1), 9);
        y.mend(0, 7, 0);
        e.due("none is there", y.drawn(1, 10, 0), 0);
        e.due("a later line has all SPOONS again", Laid.line("5 0 1 1 0").drawn(1, 203, 1), 20);
    }

    private void judgeRefused() {
        e.says("Promise 19", "JUDGED. BAD, -11, -12 (no ROW of bytes); NOT.");
        refused("judge", PastOnce::judge);
        e.due("a ROW of none", Laid.judged(Laid.line("5 1 1 4 0")), Edge.NOT);
        e.due("five of four", Laid.judged(Laid.line("5 1 1 4 0"), 5), 0);
    }

    private void drawnOf() {
        e.says("Promise 21", "DRAWN (nw: 10 n and the way): worth (what 0), spoons (1). VOID: BAD.");
        int[] bad = {Integer.MIN_VALUE, -13, -10, -1, 0, 1, 2, 3, 4, 9, 14, 19, 99, 104, 194, 204, 209, 210, 213, 2000, Integer.MAX_VALUE};
        for (int nw : bad) {
            e.due("drawn(1, " + nw + ", 0)", Laid.line("5 1 1 1 0").drawn(1, nw, 0), Edge.VOID);
        }
        int[] good = {10, 11, 12, 13, 20, 193, 200, 201, 202, 203};
        for (int nw : good) {
            e.due("drawn(1, " + nw + ", 0)", Laid.line("5 1 1 1 0").drawn(1, nw, 0), 5 * (nw / 10));
            e.due("drawn(1, " + nw + ", 1)", Laid.line("5 1 1 1 0").drawn(1, nw, 1), nw / 10);
        }
        e.between("drawn(1, 10, what)", 0, 1, Edge.VOID, what -> Laid.line("5 1 1 1 0").drawn(1, 10, what));
        e.due("both are not so", Laid.line("5 1 1 1 0").drawn(1, 0, 2), Edge.VOID);
    }
}
