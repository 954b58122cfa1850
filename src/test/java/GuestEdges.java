/** Edges of GUESTS, HOST and OFFERS (Terms 3) and of promises 12 to 18. */
final class GuestEdges {
    private final Edge e;

    GuestEdges(Edge e) {
        this.e = e;
    }

    void all() {
        best();
        shy();
        byLaw();
        greedy();
        emptyPlate();
        tenAtMost();
        others();
        oneAfterAnother();
        left();
        after();
        again();
        guests();
        gone();
        lay();
        firstByNumbers();
        lastOrder();
        small();
        offers();
        letsGoBy();
        stop();
        leftRefused();
        afterRefused();
        goneOf();
        layOf();
        smallOf();
        offersOf();
        stopOf();
    }

    private void takes(String what, PastOnce x, int habit, int... counts) {
        for (int i = 0; i < counts.length; i++) {
            e.due(what + ", of " + i, Laid.taken(x, habit, i), counts[i]);
        }
    }

    private void best() {
        e.says("Terms 3", "GUESTS ahead have HABITS: 0 BEST");
        takes("worth 2, 1, 0", Laid.line("2 1 1 4 0"), Laid.BEST, 2);
        takes("fewest of the first", Laid.on(1, "5 0 1 1 0", "5 0 1 1 0"), Laid.BEST, 0, 1);
        takes("no SPOONS", Laid.line("5 0 1 0 0"), Laid.BEST, 0);
    }

    private void shy() {
        e.says("Terms 3", "1 shy (one spoon of each DISH that MAY be)");
        takes("0, 1, 2, 9 SPOONS", Laid.line("5 1 1 0 0", "5 1 1 1 0", "5 1 1 2 0", "5 1 1 9 0"), Laid.SHY, 0, 1, 1, 1);
        takes("whatever it is worth", Laid.line("0 9 1 4 0"), Laid.SHY, 1);
        takes("just room for both", Laid.on(6, "5 1 3 4 0", "5 1 3 4 0"), Laid.SHY, 1, 1);
        takes("one less", Laid.on(5, "5 1 3 4 0", "5 1 3 4 0"), Laid.SHY, 1, 0);
        takes("one less, but a small one behind", Laid.on(5, "5 1 3 4 0", "5 1 3 4 0", "5 1 2 4 0"), Laid.SHY, 1, 0, 1);
        takes("barred", Laid.mended(Laid.line("5 1 1 4 0", "5 1 1 4 1"), 0, 9, 2), Laid.SHY, 1, 0);
        takes("what RUNS takes room: just", Laid.mended(Laid.on(7, "5 1 3 4 0", "5 1 3 4 0"), 0, 5, 1), Laid.SHY, 1, 1);
        takes("what RUNS takes room: one less", Laid.mended(Laid.on(6, "5 1 3 4 0", "5 1 3 4 0"), 0, 5, 1), Laid.SHY, 1, 0);
    }

    private void byLaw() {
        e.says("Terms 3", "2 by THE LAW");
        takes("without a text", Laid.line("2 1 1 4 0"), Laid.BY_LAW, 2);
        takes("by t<3", Laid.withLaw(Laid.line("2 1 1 4 0"), "t<3"), Laid.BY_LAW, 3);
        takes("by 0", Laid.withLaw(Laid.line("2 1 1 4 0"), "0"), Laid.BY_LAW, 0);
    }

    private void greedy() {
        e.says("Terms 3", "3 greedy (as many of each DISH as MAY be, whatever it is worth)");
        takes("worth 1, -8 and less", Laid.line("1 9 1 9 0"), Laid.GREEDY, 9);
        takes("worth 0", Laid.line("0 0 1 9 0"), Laid.GREEDY, 9);
        takes("no SPOONS", Laid.line("5 0 1 0 0"), Laid.GREEDY, 0);
        takes("just room", Laid.on(9, "0 0 3 4 0"), Laid.GREEDY, 3);
        takes("one less", Laid.on(8, "0 0 3 4 0"), Laid.GREEDY, 2);
        takes("what is left for the next", Laid.on(8, "0 0 3 4 0", "0 0 2 4 0", "9 0 1 1 0"), Laid.GREEDY, 2, 1, 0);
        takes("barred", Laid.mended(Laid.line("0 0 1 1 0", "9 0 1 1 1", "9 0 1 1 2"), 0, 9, 2), Laid.GREEDY, 1, 0, 1);
    }

    private void emptyPlate() {
        e.says("Terms 3", "each with an empty plate.");
        PastOnce x = Laid.on(3, "5 1 3 4 0");
        int[] left = {4, 3, 2, 1, 0, 0};
        for (int n = 0; n < left.length; n++) {
            Check.bytes(x, 0, java.util.Arrays.copyOf(new int[] {3, 3, 3, 3, 3, 3}, n));
            e.due(n + " greedy ones, room for one each", x.left(0, 0), left[n]);
        }
        x = Laid.mended(Laid.on(3, "5 1 1 1 0", "5 1 2 2 1"), 0, 9, 2);
        Check.bytes(x, 0, 3, 3);
        e.due("what barred lies on the plate ahead", x.left(0, 1), 1);
        x = Laid.mended(Laid.on(3, "5 1 1 1 0", "5 1 3 2 1"), 0, 5, 1);
        Check.bytes(x, 0, 3, 3);
        e.due("what ran lies on the plate ahead", x.left(0, 1), 1);
    }

    private void tenAtMost() {
        e.says("Terms 3", "A QUEUE: a ROW of bytes on a SHELF of HABITS (10 at most count");
        for (int length = 1; length <= 14; length++) {
            PastOnce x = Laid.line("5 1 1 9 0");
            x.row(0, 0, length);
            for (int i = 0; i < length - 1; i++) {
                x.put(0, i, 4);
            }
            x.put(0, length - 1, 1);
            e.due("a shy one is the guest " + length, x.left(0, 0), length <= 10 ? 8 : 9);
        }
        PastOnce shorter = Laid.line("5 1 1 9 0");
        Check.bytes(shorter, 0, 1, 1, 1);
        Check.bytes(shorter, 0, 1);
        e.due("one where three were", shorter.left(0, 0), 8);
        PastOnce x = Laid.line("5 1 1 9 0", "5 1 1 9 1");
        x.mend(0, 9, 2);
        x.row(0, 0, 60);
        for (int i = 0; i < 60; i++) {
            x.put(0, i, 1);
        }
        e.due("sixty shy ones: nine of DISH 0", x.left(0, 0), 0);
        e.due("sixty shy ones: the tenth of DISH 1", x.left(0, 1), 8);
    }

    private void others() {
        e.says("Terms 3", "others than 0 .. 3 take none), one after another");
        int[] habits = {-128, -1, 0, 1, 2, 3, 4, 127};
        int[] left = {9, 9, 7, 8, 8, 0, 9, 9};
        for (int i = 0; i < habits.length; i++) {
            PastOnce x = Laid.withLaw(Laid.line("2 1 1 9 0"), "t<1");
            Check.bytes(x, 0, habits[i]);
            e.due("HABIT " + habits[i], x.left(0, 0), left[i]);
            Check.bytes(x, 0, habits[i], 1);
            e.due("HABIT " + habits[i] + " and a shy one", x.left(0, 0), Math.max(0, left[i] - 1));
        }
    }

    private void oneAfterAnother() {
        e.says("Terms 3", "one after another: LEFT of a DISH behind them: SPOONS.");
        PastOnce x = Laid.on(3, "5 1 1 3 0", "5 1 1 3 0");
        int[][] queues = {{}, {3}, {1}, {3, 1}, {1, 3}, {3, 3}, {3, 3, 1}};
        int[][] left = {{3, 3}, {0, 3}, {2, 2}, {0, 2}, {0, 1}, {0, 0}, {0, 0}};
        for (int i = 0; i < queues.length; i++) {
            Check.bytes(x, 0, queues[i]);
            e.due("the QUEUE " + i + ", of 0", x.left(0, 0), left[i][0]);
            e.due("the QUEUE " + i + ", of 1", x.left(0, 1), left[i][1]);
        }
    }

    private void left() {
        e.says("Promise 12", "LEFT of a DISH.");
        PastOnce x = Laid.line("5 1 1 3 0", "5 1 1 0 0");
        for (int n = 0; n <= 5; n++) {
            Check.bytes(x, 0, java.util.Arrays.copyOf(new int[] {1, 1, 1, 1, 1}, n));
            e.due(n + " shy ones, of three", x.left(0, 0), Math.max(0, 3 - n));
            e.due(n + " shy ones, of none", x.left(0, 1), 0);
        }
        e.due("in thought alone", x.of(0, 3), 3);
        PastOnce nine = LawEdges.nineDishes();
        Check.bytes(nine, 0, 1);
        for (int dish = 0; dish <= 8; dish++) {
            e.due("one shy one, of DISH " + dish, nine.left(0, dish), 0);
        }
    }

    private void after() {
        e.says("Terms 3", "AFTER: what BEST is worth behind them.");
        PastOnce x = Laid.line("5 1 1 4 0");
        int[] due = {14, 12, 9, 5, 0, 0};
        for (int n = 0; n < due.length; n++) {
            Check.bytes(x, 0, java.util.Arrays.copyOf(new int[] {1, 1, 1, 1, 1}, n));
            e.due(n + " shy ones ahead", x.after(0, 0), due[n]);
        }
        Check.bytes(x, 0, 3);
        e.due("a greedy one ahead", x.after(0, 0), 0);
        Check.bytes(x, 0);
        e.due("a QUEUE of none", x.after(0, 0), x.best(-1));
        PastOnce none = new PastOnce();
        Check.bytes(none, 0, 0, 1, 2, 3);
        e.due("no DISHES", none.after(0, 0), 0);
    }

    private void again() {
        e.says("Terms 3", "AGAIN: one goes by BEST ahead of them, then, with an empty plate, by BEST behind them: all that is worth.");
        PastOnce x = Laid.on(2, "5 1 1 5 0");
        // 5 and 4 ahead; three are there then, by each shy one fewer.
        int[] due = {18, 18, 14, 9, 9};
        for (int n = 0; n < due.length; n++) {
            Check.bytes(x, 0, java.util.Arrays.copyOf(new int[] {1, 1, 1, 1}, n));
            e.due(n + " shy ones between", x.after(0, 1), due[n]);
        }
        // By BEST one takes nothing of what is worth nothing, ahead or behind.
        x = Laid.line("0 0 1 9 0");
        Check.bytes(x, 0, 3);
        e.due("nothing worth it", x.after(0, 1), 0);
        // BEST ahead: the great one; the greedy one takes the rest.
        x = Laid.on(1, "1 0 1 1 0", "9 0 1 1 0");
        Check.bytes(x, 0, 3);
        e.due("the great one ahead, none behind", x.after(0, 1), 9);
        Check.bytes(x, 0);
        e.due("the great one, then the small one", x.after(0, 1), 10);
        PastOnce none = new PastOnce();
        Check.bytes(none, 0, 0, 1, 2, 3);
        e.due("no DISHES", none.after(0, 1), 0);
    }

    // Each shy guest takes one of DISH 0, at 1, while one is there; then one of DISH 1, at 99.
    private static PastOnce nineAndNine() {
        PastOnce x = Laid.line("5 1 1 9 0", "5 1 1 9 1");
        x.mend(0, 9, 2);
        x.mend(0, 6, 1);
        x.mend(1, 6, 99);
        return x;
    }

    private void guests() {
        e.says("Terms 3", "HOST: n guests (1 .. 10) of one HABIT: GONE: what the spoons that they take cost (DEAR).");
        for (int n = 1; n <= 10; n++) {
            e.due(n + " shy ones", nineAndNine().gone(10 * n + 1), n <= 9 ? n : 9 + 99);
        }
        e.between("gone(10 n + 1)", 1, 10, Edge.BAD, n -> nineAndNine().gone(10 * n + 1));
        e.due("one greedy one", nineAndNine().gone(13), 9);
        PastOnce nine = LawEdges.nineDishes();
        nine.mend(8, 6, 99);
        for (int habit = 0; habit <= 3; habit++) {
            e.due("nine DISHES, HABIT " + habit, nine.gone(100 + habit), 8 * 10 + 99);
        }
        e.due("two greedy ones", nineAndNine().gone(23), 9 + 9 * 99);
        e.due("ten greedy ones: all", nineAndNine().gone(103), 9 + 9 * 99);
    }

    private void gone() {
        e.says("Promise 14", "GONE (nh: 10 n and HABIT 0 .. 3). BAD.");
        int[] bad = {Integer.MIN_VALUE, -13, -10, -1, 0, 1, 2, 3, 4, 9, 14, 19, 24, 94, 99, 104, 109, 110, 111, 113, 1000, 1010, Integer.MAX_VALUE};
        for (int nh : bad) {
            e.due("gone(" + nh + ")", Laid.line("5 1 1 4 0").gone(nh), Edge.BAD);
        }
        int[] good = {10, 11, 12, 13, 20, 93, 100, 101, 102, 103};
        // By BEST two are taken, the third is worth 0; then two again.
        int[] due = {20, 10, 30, 40, 40, 40, 40, 40, 40, 40};
        for (int i = 0; i < good.length; i++) {
            e.due("gone(" + good[i] + ")", Laid.withLaw(Laid.line("2 1 1 4 0"), "t<3").gone(good[i]), due[i]);
        }
    }

    private void lay() {
        e.says("Terms 3", "LAY: of all ORDERS of the DISHES (5 at most, else STATE) that by which GONE is least: GONE; the DISH that lies at a place");
        PastOnce x = new PastOnce();
        e.due("no DISHES", x.lay(13, -1), 0);
        for (int n = 1; n <= 5; n++) {
            x.dish(53, 0);
            e.due(n + " DISHES, the last place", x.lay(13, n - 1), n - 1);
            e.due(n + " DISHES", x.lay(13, -1), Math.min(6, 4 * n) * 10);
        }
        x.dish(53, 0);
        e.due("six DISHES", x.lay(13, -1), Edge.STATE);
        e.due("six DISHES, place 0", x.lay(13, 0), Edge.STATE);
        e.due("six DISHES, place 5", x.lay(13, 5), Edge.STATE);
        e.due("nine DISHES", LawEdges.nineDishes().lay(13, -1), Edge.STATE);
        e.due("nine DISHES, place 8", LawEdges.nineDishes().lay(10, 8), Edge.STATE);
    }

    private static PastOnce five(int... dear) {
        PastOnce x = new PastOnce();
        for (int i = 0; i < dear.length; i++) {
            Laid.add(x, "5 0 1 4 0");
            x.mend(i, 6, dear[i]);
        }
        // So many are taken as lie behind: 4 of the first of five, none of the last.
        Check.tell(x, "t<n");
        return x;
    }

    private void layIs(String what, PastOnce x, int nh, int gone, int... order) {
        e.due(what + ", GONE", x.lay(nh, -1), gone);
        for (int place = 0; place < order.length; place++) {
            e.due(what + ", place " + place, x.lay(nh, place), order[place]);
        }
    }

    private void firstByNumbers() {
        e.says("Terms 3", "(of like ones the first by numbers).");
        layIs("all alike", five(7, 7, 7, 7, 7), 12, 70, 0, 1, 2, 3, 4);
        layIs("all cost nothing", five(0, 0, 0, 0, 0), 12, 0, 0, 1, 2, 3, 4);
        layIs("two and two alike", five(9, 5, 9, 5, 7), 12, 5 * 4 + 5 * 3 + 7 * 2 + 9, 1, 3, 4, 0, 2);
        layIs("one of one", five(9), 12, 0, 0);
        layIs("two of two", five(9, 9), 12, 9, 0, 1);
    }

    private void lastOrder() {
        e.says("Promise 15", "LAY: GONE (place -1), the DISH at a place.");
        layIs("the first ORDER", five(10, 20, 30, 40, 50), 12, 200, 0, 1, 2, 3, 4);
        layIs("the last ORDER", five(50, 40, 30, 20, 10), 12, 200, 4, 3, 2, 1, 0);
        layIs("one in the middle", five(30, 10, 50, 20, 40), 12, 200, 1, 3, 0, 4, 2);
        layIs("of two, the last", five(9, 8), 12, 8, 1, 0);
        layIs("of three, the last", five(9, 8, 7), 12, 7 * 2 + 8, 2, 1, 0);
    }

    private void small() {
        e.says("Terms 3", "SMALL: the greatest PLATE (1 .. 60) by which GONE is no more than told; NOT.");
        // One greedy guest takes a spoon, at 10, by each room.
        PastOnce x = Laid.line("5 1 1 9 0", "5 1 1 9 0", "5 1 1 9 0", "5 1 1 9 0", "5 1 1 9 0", "5 1 1 9 0", "5 1 1 9 0");
        e.due("most 600", x.small(13, 600), 60);
        e.due("most 599", x.small(13, 599), 59);
        e.due("most 590", x.small(13, 590), 59);
        e.due("most 589", x.small(13, 589), 58);
        e.due("most 20", x.small(13, 20), 2);
        e.due("most 19", x.small(13, 19), 1);
        e.due("most 10", x.small(13, 10), 1);
        e.due("most 9", x.small(13, 9), Edge.NOT);
        e.due("most 0", x.small(13, 0), Edge.NOT);
        e.due("far more", x.small(13, Integer.MAX_VALUE), 60);
        e.due("the PLATE that is there does not count", Laid.mended(Laid.on(1, "5 1 1 9 0"), 0, 6, 1).small(13, 5), 5);
        e.due("two guests, most 40", x.small(23, 40), 2);
        e.due("two guests, most 39", x.small(23, 39), 1);
        e.due("two guests, most 19", x.small(23, 19), Edge.NOT);
        e.due("no DISHES", new PastOnce().small(13, 0), 60);
        e.due("what costs nothing", Laid.mended(Laid.line("5 1 1 9 0"), 0, 6, 0).small(103, 0), 60);
        // From 3 of room on the cheap one fits, that bars the dear one; from 8 on the third one, too.
        x = Laid.mended(Laid.mended(Laid.mended(Laid.line("5 0 3 1 0", "5 0 1 1 1", "5 0 5 1 2"), 0, 9, 2), 0, 6, 1), 1, 6, 50);
        e.due("a greater one that costs less, most 1", x.small(13, 1), 7);
        e.due("all of it, most 11", x.small(13, 11), 60);
    }

    private void offers() {
        e.says("Terms 3", "OFFERS (n of them, 1 .. 12, in any order, all alike; one knows only how they compare with those ahead, none comes again)");
        e.between("offers(n, 0, 0)", 1, 12, Edge.NO_NUMBER, n -> new PastOnce().offers(n, 0, 0));
        for (int n = 1; n <= 7; n++) {
            long all = 1;
            for (int i = 2; i <= n; i++) {
                all *= i;
            }
            for (int r = 0; r < n; r++) {
                long lucky = Slow.lucky(n, r);
                long common = gcd(lucky, all);
                e.due("offers(" + n + ", " + r + ", 0)", new PastOnce().offers(n, r, 0), lucky / common);
                e.due("offers(" + n + ", " + r + ", 1)", new PastOnce().offers(n, r, 1), all / common);
            }
        }
    }

    private static long gcd(long a, long b) {
        return b == 0 ? a : gcd(b, a % b);
    }

    private void letsGoBy() {
        e.says("Terms 3", "one lets r go by, then takes the first that is better than all of these, else the last: how likely it is the best of all: a fraction");
        // r by n times 1 by r and so on, up to 1 by n less 1.
        for (int n = 8; n <= 12; n++) {
            for (int r = 1; r < n; r++) {
                long above = 0;
                for (int j = r; j < n; j++) {
                    above += r * (27720L / j);
                }
                long below = n * 27720L;
                e.due("offers(" + n + ", " + r + ", 0)", new PastOnce().offers(n, r, 0), above / gcd(above, below));
                e.due("offers(" + n + ", " + r + ", 1)", new PastOnce().offers(n, r, 1), below / gcd(above, below));
            }
            e.due("all but the last go by, above", new PastOnce().offers(n, n - 1, 0), 1);
            e.due("all but the last go by, below", new PastOnce().offers(n, n - 1, 1), n);
        }
    }

    private void stop() {
        e.says("Terms 3", "the r (0 on) by which that is greatest (of like ones the least). (r 0: the first one.)");
        int[] due = {0, 0, 0, 1, 1, 2, 2, 2, 3, 3, 3, 4, 4};
        for (int n = 1; n <= 12; n++) {
            e.due("stop(" + n + ")", new PastOnce().stop(n), due[n]);
            e.due("offers(" + n + ", 0, 0): the first one", new PastOnce().offers(n, 0, 0), 1);
            e.due("offers(" + n + ", 0, 1): the first one", new PastOnce().offers(n, 0, 1), n);
        }
        PastOnce x = new PastOnce();
        e.due("of two, r 0 and r 1 are like ones", x.offers(2, 1, 0) * 10 + x.offers(2, 1, 1), 12);
    }

    private void leftRefused() {
        e.says("Promise 12", "BAD, -11, -12 (no ROW of bytes).");
        e.between("left(shelf, 0)", 0, 5, Edge.BAD, shelf -> Laid.line("5 1 1 4 0").left(shelf, 0));
        e.due("left(0, 0) of none", new PastOnce().left(0, 0), Edge.BAD);
        e.between("left(0, dish) of two", 0, 1, Edge.BAD, dish -> Laid.line("5 1 1 4 0", "5 1 1 4 0").left(0, dish));
        e.between("left(0, dish) of nine", 0, 8, Edge.BAD, dish -> LawEdges.nineDishes().left(0, dish));
        PastOnce x = Laid.line("5 1 1 4 0");
        e.due("nothing is there", x.left(0, 0), Edge.NOTHING);
        for (int sort = 1; sort <= 4; sort++) {
            x.row(0, sort, 0);
            e.due("a ROW of sort " + sort, x.left(0, 0), Edge.OTHER);
        }
        x.body(0);
        x.keep(0, 0);
        e.due("a BODY", x.left(0, 0), Edge.OTHER);
        e.due("a BODY and no such DISH", x.left(0, 1), Edge.BAD);
        x.row(0, 0, 0);
        e.due("a ROW of bytes", x.left(0, 0), 4);
    }

    private void afterRefused() {
        e.says("Promise 13", "AFTER (what 0), AGAIN (1). VOID: BAD, or no ROW of bytes.");
        PastOnce x = Laid.on(1, "5 1 1 1 0", "4 1 1 1 0");
        for (int shelf = 0; shelf <= 5; shelf++) {
            x.row(shelf, 0, 0);
        }
        e.between("after(shelf, 0)", 0, 5, Edge.VOID, shelf -> x.after(shelf, 0));
        e.between("after(0, what)", 0, 1, Edge.VOID, what -> x.after(0, what));
        e.due("after(0, 0)", x.after(0, 0), 5);
        e.due("after(0, 1)", x.after(0, 1), 9);
        x.keep(0, -1);
        x.body(0);
        x.keep(1, 0);
        for (int what = 0; what <= 1; what++) {
            e.due("nothing is there", x.after(0, what), Edge.VOID);
            e.due("a BODY", x.after(1, what), Edge.VOID);
            for (int sort = 1; sort <= 4; sort++) {
                x.row(2, sort, 0);
                e.due("a ROW of sort " + sort, x.after(2, what), Edge.VOID);
            }
        }
    }

    private void goneOf() {
        e.says("Promise 14", "GONE (nh: 10 n and HABIT 0 .. 3).");
        e.due("no DISHES, ten guests", new PastOnce().gone(103), 0);
        e.due("one by BEST of 2, 1, 0", Laid.line("2 1 1 4 0").gone(10), 20);
        e.due("one shy", Laid.line("2 1 1 4 0").gone(11), 10);
        e.due("one by THE LAW", Laid.withLaw(Laid.line("2 1 1 4 0"), "t<3").gone(12), 30);
        e.due("one greedy", Laid.line("2 1 1 4 0").gone(13), 40);
        e.due("in thought alone", Laid.line("2 1 1 4 0").count(1), 4);
    }

    private void layOf() {
        e.says("Promise 15", "BAD; STATE.");
        for (int n = 0; n <= 5; n++) {
            PastOnce x = new PastOnce();
            for (int i = 0; i < n; i++) {
                x.dish(53, 0);
            }
            e.between("lay(11, place) of " + n, -1, n - 1, Edge.BAD, place -> x.lay(11, place));
        }
        int[] bad = {Integer.MIN_VALUE, -11, -1, 0, 3, 9, 14, 19, 104, 110, 113, Integer.MAX_VALUE};
        for (int nh : bad) {
            e.due("lay(" + nh + ", -1)", Laid.line("5 1 1 4 0").lay(nh, -1), Edge.BAD);
            e.due("lay(" + nh + ", -1) of nine", LawEdges.nineDishes().lay(nh, -1), Edge.BAD);
        }
        e.due("lay(13, 9) of nine", LawEdges.nineDishes().lay(13, 9), Edge.BAD);
        e.due("lay(13, -2) of nine", LawEdges.nineDishes().lay(13, -2), Edge.BAD);
        e.due("lay(13, 8) of nine", LawEdges.nineDishes().lay(13, 8), Edge.STATE);
        for (int habit = 0; habit <= 3; habit++) {
            e.due("lay(100 + " + habit + ", -1)", Laid.line("5 0 1 1 0").lay(100 + habit, -1), 10);
            e.due("lay(10 + " + habit + ", -1)", Laid.line("5 0 1 1 0").lay(10 + habit, -1), 10);
        }
    }

    private void smallOf() {
        e.says("Promise 16", "SMALL. BAD; NOT.");
        int[] bad = {Integer.MIN_VALUE, -11, -1, 0, 3, 9, 14, 19, 104, 110, 113, Integer.MAX_VALUE};
        for (int nh : bad) {
            e.due("small(" + nh + ", 0)", Laid.line("5 1 1 4 0").small(nh, 0), Edge.BAD);
        }
        e.due("most -1", new PastOnce().small(13, -1), Edge.BAD);
        e.due("most far below", new PastOnce().small(13, Integer.MIN_VALUE), Edge.BAD);
        e.due("most 0", new PastOnce().small(13, 0), 60);
        e.due("no PLATE is small enough", Laid.line("5 1 1 4 0").small(13, 9), Edge.NOT);
        for (int habit = 0; habit <= 3; habit++) {
            e.due("small(10 + " + habit + ", 10)", Laid.line("5 0 9 2 0").small(10 + habit, 10), habit == 1 ? 60 : 17);
            e.due("small(100 + " + habit + ", 10)", Laid.line("5 0 9 1 0").small(100 + habit, 10), 60);
        }
    }

    private void offersOf() {
        e.says("Promise 17", "OFFERS: how likely by r (0 .. n less 1): part 0, 1. Long.MIN_VALUE: BAD.");
        PastOnce x = new PastOnce();
        for (int n = 1; n <= 12; n++) {
            int many = n;
            e.between("offers(" + n + ", r, 0)", 0, n - 1, Edge.NO_NUMBER, r -> x.offers(many, r, 0));
        }
        e.between("offers(n, 0, 1)", 1, 12, Edge.NO_NUMBER, n -> x.offers(n, 0, 1));
        e.between("offers(4, 1, part)", 0, 1, Edge.NO_NUMBER, part -> x.offers(4, 1, part));
        e.due("offers(0, 0, 0)", x.offers(0, 0, 0), Edge.NO_NUMBER);
        e.due("offers(4, 1, 0)", x.offers(4, 1, 0), 11);
        e.due("offers(4, 1, 1)", x.offers(4, 1, 1), 24);
        e.due("offers(1, 0, 0)", x.offers(1, 0, 0), 1);
        e.due("offers(1, 0, 1)", x.offers(1, 0, 1), 1);
    }

    private void stopOf() {
        e.says("Promise 18", "The r by which that is greatest. BAD.");
        e.between("stop(n)", 1, 12, Edge.BAD, n -> new PastOnce().stop(n));
        e.due("stop(1)", new PastOnce().stop(1), 0);
        e.due("stop(3)", new PastOnce().stop(3), 1);
        e.due("stop(12)", new PastOnce().stop(12), 4);
    }
}
