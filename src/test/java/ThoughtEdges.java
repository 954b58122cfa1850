import java.math.BigInteger;

/** Edges of BEST, SIGHT and MEAN (Terms 2) and of promises 8, 9, 11. */
final class ThoughtEdges {
    private final Edge e;

    ThoughtEdges(Edge e) {
        this.e = e;
    }

    void all() {
        best();
        fewest();
        roomLeft();
        sight();
        sightOnThePlate();
        sightOutOfAccount();
        byChance();
        mean();
        lowestTerms();
        ifThere();
        bestOf();
        sightOf();
        meanOf();
        meanRefused();
    }

    private void takes(String what, PastOnce x, int worth, int... counts) {
        e.due(what + ", best(-1)", x.best(-1), worth);
        for (int i = 0; i < counts.length; i++) {
            e.due(what + ", best(" + i + ")", x.best(i), counts[i]);
        }
    }

    private void best() {
        e.says("Terms 2", "BEST (all known): of all ways to take spoons along the line those by which all is worth most: that;");
        takes("no DISHES", new PastOnce(), 0);
        takes("no SPOONS", Laid.line("20 0 1 0 0"), 0, 0);
        takes("no room", Laid.on(8, "20 0 9 9 0"), 0, 0);
        takes("just room for one", Laid.on(9, "20 0 9 9 0"), 20, 1);
        takes("room for one, not two", Laid.on(17, "20 0 9 9 0"), 20, 1);
        takes("just room for two", Laid.on(18, "20 0 9 9 0"), 40, 2);
        takes("as many as are there", Laid.on(60, "20 0 1 9 0"), 180, 9);
        takes("a PLATE of 1", Laid.on(1, "20 0 1 9 0"), 20, 1);
        takes("a later one is worth more", Laid.on(4, "9 0 4 1 0", "10 0 4 1 0"), 10, 0, 1);
        takes("two small ones are worth more", Laid.on(4, "9 0 4 1 0", "5 0 2 2 0"), 10, 0, 2);
        takes("two small ones are worth less", Laid.on(4, "11 0 4 1 0", "5 0 2 2 0"), 11, 1, 0);
        takes("what bars the rest is left", Laid.mended(Laid.line("9 0 1 1 0", "5 0 1 2 1"), 0, 9, 2), 10, 0, 2);
        takes("what bars one spoon is left", Laid.mended(Laid.line("9 0 1 1 0", "10 0 1 1 1"), 0, 9, 2), 10, 0, 1);
        takes("what bars one spoon of the last is left", Laid.mended(Laid.line("9 0 1 1 0", "3 0 1 1 2", "10 0 1 1 1"), 0, 9, 2), 13, 0, 1, 1);
        takes("what bars one that has no SPOONS is taken", Laid.mended(Laid.line("9 0 1 1 0", "10 0 1 0 1"), 0, 9, 2), 9, 1, 0);
        takes("what bars less is taken", Laid.mended(Laid.line("11 0 1 1 0", "5 0 1 2 1"), 0, 9, 2), 11, 1, 0);
        takes("what RUNS is left", Laid.mended(Laid.on(5, "2 0 1 1 0", "5 0 2 2 0"), 0, 5, 1), 10, 0, 2);
        takes("what RUNS is taken", Laid.mended(Laid.on(7, "2 0 1 1 0", "5 0 2 2 0"), 0, 5, 1), 12, 1, 2);
    }

    private void fewest() {
        e.says("Terms 2", "how many spoons of a DISH (of like ones the fewest of the first DISH, then of the next one, and so on)");
        takes("a spoon of 0 is left", Laid.line("2 1 1 4 0"), 3, 2);
        takes("a spoon below 0 is left", Laid.line("1 2 1 4 0"), 1, 1);
        takes("all of 0 are left", Laid.line("0 0 1 4 0"), 0, 0);
        takes("a spoon of 1 is not", Laid.line("1 1 1 4 0"), 1, 1);
        takes("room for one of three", Laid.on(1, "5 0 1 1 0", "5 0 1 1 0", "5 0 1 1 0"), 5, 0, 0, 1);
        takes("room for two of three", Laid.on(2, "5 0 1 1 0", "5 0 1 1 0", "5 0 1 1 0"), 10, 0, 1, 1);
        takes("room for all three", Laid.on(3, "5 0 1 1 0", "5 0 1 1 0", "5 0 1 1 0"), 15, 1, 1, 1);
        takes("the first is worth 1 more", Laid.on(1, "6 0 1 1 0", "5 0 1 1 0", "5 0 1 1 0"), 6, 1, 0, 0);
        takes("the last is worth 1 less", Laid.on(1, "5 0 1 1 0", "5 0 1 1 0", "4 0 1 1 0"), 5, 0, 1, 0);
        takes("fewest of the first, whatever the others", Laid.on(2, "5 0 1 2 0", "5 0 2 1 0", "5 0 1 1 0"), 10, 1, 0, 1);
        takes("6, 5 and one of two that are worth 4", Laid.on(6, "6 2 2 2 0", "5 1 2 2 0"), 15, 1, 2);
        takes("nine like ones, room for four", Laid.on(4, "5 0 1 1 0", "5 0 1 1 0", "5 0 1 1 0", "5 0 1 1 0", "5 0 1 1 0", "5 0 1 1 0", "5 0 1 1 0",
                "5 0 1 1 0", "5 0 1 1 0"), 20, 0, 0, 0, 0, 0, 1, 1, 1, 1);
    }

    private void roomLeft() {
        e.says("Terms 2", "how much room is left by them.");
        e.due("no DISHES", new PastOnce().best(-2), 20);
        e.due("nothing is worth it", Laid.on(60, "0 0 1 9 0").best(-2), 60);
        e.due("none is left", Laid.on(18, "5 0 9 9 0").best(-2), 0);
        e.due("one is left", Laid.on(19, "5 0 9 9 0").best(-2), 1);
        e.due("all but one is left", Laid.on(60, "5 0 1 1 0").best(-2), 59);
        e.due("with what RUNS", Laid.mended(Laid.on(7, "2 0 1 1 0", "5 0 2 2 0"), 0, 5, 1).best(-2), 0);
        e.due("a spoon that is worth 0 takes none", Laid.line("2 1 3 4 0").best(-2), 14);
    }

    // One room; the great DISH stands at a place, those ahead of it grow by one from 1 on.
    private static PastOnce greatAt(int place) {
        PastOnce x = new PastOnce();
        for (int i = 0; i < 9; i++) {
            Laid.add(x, i == place ? "20 0 1 1 0" : i == 0 ? "1 0 1 1 0" : "0 0 1 1 0");
        }
        x.mend(0, 8, 1);
        return x;
    }

    private void sight() {
        e.says("Terms 2", "SIGHT s (0 .. 8): at each DISH one takes of it as many as the BEST way from there on");
        for (int s = 0; s <= 8; s++) {
            for (int place = 1; place <= 8; place++) {
                PastOnce x = greatAt(place);
                boolean seen = place <= s;
                e.due("s " + s + ", the great one at " + place, x.sight(s, -1), seen ? 20 : 1);
                e.due("s " + s + ", of the first", x.sight(s, 0), seen ? 0 : 1);
                e.due("s " + s + ", of the great one", x.sight(s, place), seen ? 1 : 0);
            }
        }
        e.between("sight(s, -1)", 0, 8, Edge.VOID, s -> greatAt(1).sight(s, -1));
    }

    private void sightOnThePlate() {
        e.says("Terms 2", "with what lies on the plate, of this DISH and the next s alone, would (the rest left out of account)");
        PastOnce x = Laid.mended(Laid.line("5 0 1 1 0", "9 0 1 2 1"), 0, 9, 2);
        e.due("barred by what lies there", x.sight(0, 1), 0);
        e.due("one sees it", x.sight(1, 1), 2);
        x = Laid.mended(Laid.on(5, "1 0 1 1 0", "5 0 2 2 0"), 0, 5, 1);
        e.due("it RUNS: room for one", x.sight(0, 1), 1);
        e.due("one sees it", x.sight(1, 1), 2);
        x = Laid.on(5, "1 0 3 2 0", "9 0 3 1 0");
        e.due("2 of room left", x.sight(0, 1), 0);
        e.due("one sees it", x.sight(1, 1), 1);
    }

    private void sightOutOfAccount() {
        e.says("Terms 2", "(the rest left out of account): all that is worth; how many of a DISH.");
        // Of like ones the fewest of this DISH: the one that is seen takes its place, and is left for the one behind.
        PastOnce x = Laid.on(1, "5 0 1 1 0", "5 0 1 1 0", "6 0 1 1 0", "0 0 1 1 0");
        e.due("s 0, of 0", x.sight(0, 0), 1);
        e.due("s 0", x.sight(0, -1), 5);
        e.due("s 1, of 0", x.sight(1, 0), 0);
        e.due("s 1, of 1", x.sight(1, 1), 0);
        e.due("s 1, of 2", x.sight(1, 2), 1);
        e.due("s 1", x.sight(1, -1), 6);
        e.due("s beyond the last", x.sight(8, -1), 6);
        e.due("spoons of 0 and below are left", Laid.line("1 1 1 9 0").sight(0, 0), 1);
        e.due("no DISHES", new PastOnce().sight(8, -1), 0);
    }

    private void byChance() {
        e.says("Terms 2", "MEAN: each DISH is there by its CHANCE, each for itself, one sees it as one comes to it; the most that all can be worth on the mean");
        for (int chance = 0; chance <= 12; chance++) {
            PastOnce x = Laid.on(1, "12 0 1 1 0", "6 0 1 1 0");
            x.mend(0, 7, chance);
            // 12 by its CHANCE, else 6: 6 + CHANCE / 2.
            e.due("12 or else 6, above, " + chance, x.mean(0), chance % 2 == 0 ? 6 + chance / 2 : 12 + chance);
            e.due("12 or else 6, below, " + chance, x.mean(1), chance % 2 == 0 ? 1 : 2);
        }
        PastOnce x = Laid.on(1, "6 0 1 1 0", "12 0 1 1 0");
        int[][] due = {{0, 6, 1}, {5, 6, 1}, {6, 6, 1}, {7, 7, 1}, {12, 12, 1}};
        for (int[] d : due) {
            x.mend(1, 7, d[0]);
            e.due("6 now or 12 by " + d[0], x.mean(0), d[1]);
            e.due("below", x.mean(1), d[2]);
        }
    }

    private void mean() {
        e.says("Terms 2", "a fraction in lowest terms (0 by 1)");
        PastOnce none = new PastOnce();
        e.due("no DISHES, above", none.mean(0), 0);
        e.due("no DISHES, below", none.mean(1), 1);
        PastOnce never = Laid.mended(Laid.line("20 0 1 9 0"), 0, 7, 0);
        e.due("never there, above", never.mean(0), 0);
        e.due("never there, below", never.mean(1), 1);
        PastOnce worthless = Laid.mended(Laid.line("0 0 1 9 0", "0 0 1 9 0"), 1, 7, 5);
        e.due("worth 0, above", worthless.mean(0), 0);
        e.due("worth 0, below", worthless.mean(1), 1);
        e.due("worth 0, if it is there, above", worthless.mean(2), 0);
        e.due("worth 0, if it is there, below", worthless.mean(3), 1);
        PastOnce half = Laid.mended(Laid.line("1 0 1 1 0"), 0, 7, 6);
        e.due("6 of 12, above", half.mean(0), 1);
        e.due("6 of 12, below", half.mean(1), 2);
        PastOnce two = Laid.mended(Laid.mended(Laid.line("1 0 1 1 0", "1 0 1 1 0"), 0, 7, 5), 1, 7, 7);
        e.due("5 and 7 of 12, above", two.mean(0), 1);
        e.due("5 and 7 of 12, below", two.mean(1), 1);
    }

    private void lowestTerms() {
        e.says("Two ways", "All fractions are in lowest terms (0 by 1, where what is above the line is 0).");
        // One room: one takes a DISH that is there, if it is worth more than what is behind on the mean.
        int[] worths = {20, 17, 13, 11, 7, 5, 3, 2, 1};
        int[] chances = {1, 5, 7, 11, 1, 5, 7, 11, 5};
        for (int n = 1; n <= 9; n++) {
            PastOnce x = new PastOnce();
            for (int i = 0; i < n; i++) {
                Laid.add(x, worths[i] + " 0 1 1 0");
                x.mend(i, 7, chances[i]);
            }
            x.mend(0, 8, 1);
            BigInteger above = BigInteger.ZERO;
            for (int i = n - 1; i >= 0; i--) {
                BigInteger now = BigInteger.valueOf(worths[i]).multiply(BigInteger.valueOf(12).pow(n - 1 - i));
                above = now.max(above).multiply(BigInteger.valueOf(chances[i])).add(above.multiply(BigInteger.valueOf(12 - chances[i])));
            }
            BigInteger below = BigInteger.valueOf(12).pow(n);
            BigInteger common = above.gcd(below);
            e.due(n + " DISHES, above", x.mean(0), above.divide(common).longValueExact());
            e.due(n + " DISHES, below", x.mean(1), below.divide(common).longValueExact());
        }
        PastOnce most = new PastOnce();
        most.mend(0, 8, 60);
        for (int i = 0; i < 9; i++) {
            Laid.add(most, "20 0 1 9 0");
        }
        e.due("the most there is, above", most.mean(0), 1200);
        e.due("the most there is, below", most.mean(1), 1);
        e.due("offers, above", most.offers(2, 0, 0), 1);
        e.due("offers, below", most.offers(2, 0, 1), 2);
        e.due("offers of one, above", most.offers(1, 0, 0), 1);
        e.due("offers of one, below", most.offers(1, 0, 1), 1);
    }

    private void ifThere() {
        e.says("Terms 2", "the most on the mean, if DISH 0 is there, and how many one takes of it then (of like ones the fewest).");
        PastOnce x = Laid.mended(Laid.line("5 1 1 2 0"), 0, 7, 0);
        e.due("never there: if it were, above", x.mean(2), 9);
        e.due("never there: if it were, below", x.mean(3), 1);
        e.due("never there: if it were, spoons", x.mean(4), 2);
        // 6 now, or 12 by so many of twelve.
        x = Laid.on(1, "6 0 1 1 0", "12 0 1 1 0");
        int[][] due = {{5, 6, 1}, {6, 6, 0}, {7, 7, 0}};
        for (int[] d : due) {
            x.mend(1, 7, d[0]);
            e.due("12 by " + d[0] + ", above", x.mean(2), d[1]);
            e.due("12 by " + d[0] + ", below", x.mean(3), 1);
            e.due("12 by " + d[0] + ", spoons", x.mean(4), d[2]);
        }
        e.due("spoons of 0 are left", Laid.line("2 1 1 9 0").mean(4), 2);
        e.due("all of 0", Laid.line("0 0 1 9 0").mean(4), 0);
        e.due("none is there", Laid.line("5 0 1 0 0", "7 0 1 1 0").mean(4), 0);
        e.due("none is there, the rest", Laid.line("5 0 1 0 0", "7 0 1 1 0").mean(2), 7);
        e.due("all nine", Laid.line("5 0 1 9 0").mean(4), 9);
        x = Laid.mended(Laid.line("5 0 1 1 0", "1 0 1 1 0"), 1, 7, 1);
        e.due("with one behind it, above", x.mean(2), 61);
        e.due("with one behind it, below", x.mean(3), 12);
    }

    private void bestOf() {
        e.says("Promise 8", "BEST: worth (dish -1), room left (-2), spoons of a DISH. VOID: BAD.");
        e.between("best(v) of none", -2, -1, Edge.VOID, v -> new PastOnce().best(v));
        e.between("best(v) of two", -2, 1, Edge.VOID, v -> Laid.line("5 1 3 4 0", "5 1 3 4 0").best(v));
        e.between("best(v) of nine", -2, 8, Edge.VOID, v -> LawEdges.nineDishes().best(v));
        PastOnce x = Laid.on(7, "5 1 3 4 0", "6 1 3 1 0");
        e.due("best(-1)", x.best(-1), 11);
        e.due("best(-2)", x.best(-2), 1);
        e.due("best(0)", x.best(0), 1);
        e.due("best(1)", x.best(1), 1);
    }

    private void sightOf() {
        e.says("Promise 9", "SIGHT: worth (dish -1), spoons of a DISH. VOID: BAD.");
        e.between("sight(s, -1) of none", 0, 8, Edge.VOID, s -> new PastOnce().sight(s, -1));
        e.between("sight(0, v) of none", -1, -1, Edge.VOID, v -> new PastOnce().sight(0, v));
        e.between("sight(0, v) of two", -1, 1, Edge.VOID, v -> Laid.line("5 1 3 4 0", "5 1 3 4 0").sight(0, v));
        e.between("sight(8, v) of nine", -1, 8, Edge.VOID, v -> LawEdges.nineDishes().sight(8, v));
        e.due("both are not so", new PastOnce().sight(9, 0), Edge.VOID);
        PastOnce x = Laid.on(7, "5 1 3 4 0", "6 1 3 1 0");
        e.due("sight(0, -1)", x.sight(0, -1), 9);
        e.due("sight(0, 0)", x.sight(0, 0), 2);
        e.due("sight(0, 1)", x.sight(0, 1), 0);
    }

    private void meanOf() {
        e.says("Promise 11", "MEAN: part 0 above, 1 below the line; if DISH 0 is there (2, 3), how many of it (4).");
        PastOnce x = Laid.mended(Laid.mended(Laid.on(2, "5 1 1 4 0", "9 0 1 1 0"), 0, 7, 3), 1, 7, 4);
        // There: 9 of two spoons, not 8 of one and 9 by 4/12; not there: 3. All: (3 * 9 + 9 * 3) / 12 = 9/2.
        long[] due = {9, 2, 9, 1, 2};
        for (int part = 0; part <= 4; part++) {
            e.due("mean(" + part + ")", x.mean(part), due[part]);
        }
    }

    private void meanRefused() {
        e.says("Promise 11", "Long.MIN_VALUE: BAD; NOT (2 to 4): there are no DISHES.");
        PastOnce none = new PastOnce();
        PastOnce one = Laid.line("5 1 3 4 0");
        e.between("mean(part) of none", 0, 4, Edge.NO_NUMBER, none::mean);
        e.between("mean(part) of one", 0, 4, Edge.NO_NUMBER, one::mean);
        for (int part = 2; part <= 4; part++) {
            e.due("mean(" + part + ") of none", none.mean(part), Edge.NOT);
        }
        e.due("mean(0) of none", none.mean(0), 0);
        e.due("mean(1) of none", none.mean(1), 1);
        e.due("mean(2) of one", one.mean(2), 14);
        e.due("mean(3) of one", one.mean(3), 1);
        e.due("mean(4) of one", one.mean(4), 4);
    }
}
