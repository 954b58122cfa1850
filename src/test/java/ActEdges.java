/** Edges of BODIES and their acts (Terms 5) and of promises 30 to 32. */
final class ActEdges {
    private static final int TAKES = 0, GOES = 1, SEES = 2, TELLS = 3;
    private static final int MOST = Integer.MAX_VALUE, LEAST = Integer.MIN_VALUE, HALF = 1 << 30;

    private final Edge e;

    ActEdges(Edge e) {
        this.e = e;
    }

    void all() {
        fiftyBodies();
        kinds();
        fourActs();
        itsNumber();
        wraps();
        nextKindAbove();
        fromTheKindAbove();
        asTheyBegan();
        firstOnes();
        body();
        act();
        noTrace();
        trace();
    }

    private void fiftyBodies() {
        e.says("Terms 5", "BODIES 0 .. 49 are kept by call");
        PastOnce x = new PastOnce();
        e.due("none acts", x.act(0, TAKES, 5), 0);
        for (int n = 0; n <= 49; n++) {
            e.due("no such BODY yet", x.act(n, TAKES, 5), 0);
            e.due("body", x.body(0), n);
            e.due("it acts", x.act(n, TAKES, 5), 5 + n);
        }
        e.due("one more", x.body(0), Edge.FULL);
        e.due("no BODY 50", x.act(50, TAKES, 5), 0);
        e.due("no BODY -1", x.act(-1, TAKES, 5), 0);
        e.due("there are", x.count(4), 50);
    }

    private void kinds() {
        e.says("Terms 5", "of KINDS: 0 TAKER; 1 GREEDY under TAKER; 2 SHY under TAKER; 3 SEER under SHY; 4 HEARD under GREEDY; 5 BEST under SEER;"
                + " 6 AGAIN under TAKER; 7 CROSSED under AGAIN.");
        e.between("body(kind)", 0, 7, Edge.BAD, kind -> new PastOnce().body(kind));
        String[] under = {"0", "01", "02", "023", "014", "0235", "06", "067"};
        PastOnce x = Laid.eightBodies();
        for (int kind = 0; kind <= 7; kind++) {
            x.keep(0, kind);
            for (int k = 0; k <= 7; k++) {
                e.due("KIND " + kind + " for " + k, x.taken(0, k), under[kind].indexOf('0' + k) >= 0 ? kind : Edge.OTHER);
            }
        }
    }

    private void fourActs() {
        e.says("Terms 5", "0 takes, 1 goes, 2 sees, 3 tells");
        PastOnce x = new PastOnce();
        x.body(0);
        x.body(0);
        e.due("takes: x + 1", x.act(1, TAKES, 6), 7);
        e.due("goes: twice", x.act(1, GOES, 6), 14);
        e.due("sees: x ^ 1", x.act(1, SEES, 6), 7);
        e.due("tells: goes less sees of 1", x.act(1, TELLS, 6), 14);
        e.between("act(1, act, 6)", 0, 3, 0, act -> x.act(1, act, 6));
    }

    private void itsNumber() {
        e.says("Terms 5", "n its number");
        int[] takes = {0, 3, 0, 0, 3, 0};
        PastOnce x = new PastOnce();
        for (int n = 0; n <= 49; n++) {
            int kind = n % 6;
            x.body(kind);
            e.due("takes by " + n, x.act(n, TAKES, 100), 100 + n + takes[kind]);
        }
    }

    private void wraps() {
        e.says("Terms 5", "ACTS with x (an int that wraps)");
        PastOnce x = Laid.eightBodies();
        e.due("takes by 0 of the most", x.act(0, TAKES, MOST), MOST);
        e.due("takes by 0 of the least", x.act(0, TAKES, LEAST), LEAST);
        e.due("takes by 2 of the most", x.act(2, TAKES, MOST), LEAST + 1);
        e.due("takes by 2, just the most", x.act(2, TAKES, MOST - 2), MOST);
        e.due("takes by 2, one more", x.act(2, TAKES, MOST - 1), LEAST);
        e.says("Terms 5", "BODIES of acts: TAKES (an interface of TAKER): 1 takes: x + n.");
        e.due("-1", x.act(5, TAKES, -1), 4);
        e.due("the most", x.act(5, TAKES, MOST), LEAST + 4);
        e.says("Terms 5", "TAKER: 10 goes: takes(x) * 2. 11 sees: x ^ n.");
        e.due("twice just the most but 1", x.act(0, GOES, HALF - 1), MOST - 1);
        e.due("twice is one too many", x.act(0, GOES, HALF), LEAST);
        e.due("twice the most", x.act(0, GOES, MOST), -2);
        e.due("twice the least", x.act(0, GOES, LEAST), 0);
        e.due("sees the most", x.act(2, SEES, MOST), MOST - 2);
        e.due("sees the least", x.act(2, SEES, LEAST), LEAST + 2);
        e.due("sees -1", x.act(2, SEES, -1), -3);
        e.says("Terms 5", "TELLS (of TAKER): 2 tells: goes(x) - sees(1).");
        e.due("the least less 1", x.act(0, TELLS, HALF), MOST);
        e.due("0 less 1", x.act(0, TELLS, 0), -1);
        wrapsUnderTaker(x);
        wrapsUnderOthers(x);
    }

    private void wrapsUnderTaker(PastOnce x) {
        e.says("Terms 5", "GREEDY: 20 takes: super.takes(x) + 3.");
        e.due("just the most", x.act(1, TAKES, MOST - 4), MOST);
        e.due("one more", x.act(1, TAKES, MOST - 3), LEAST);
        e.due("the most", x.act(1, TAKES, MOST), LEAST + 3);
        e.says("Terms 5", "SHY: 30 goes: -super.goes(x).");
        e.due("less the least is the least", x.act(2, GOES, HALF - 2), LEAST);
        e.due("less the least but 2", x.act(2, GOES, -HALF - 1), MOST - 1);
        e.due("less 0", x.act(2, GOES, -2), 0);
        e.says("Terms 5", "AGAIN: 70 takes: super.takes(x) * 2.");
        e.due("just the most but 1", x.act(6, TAKES, HALF - 7), MOST - 1);
        e.due("one too many", x.act(6, TAKES, HALF - 6), LEAST);
        e.due("the most", x.act(6, TAKES, MOST), 2 * (LEAST + 5));
    }

    private void wrapsUnderOthers(PastOnce x) {
        e.says("Terms 5", "SEER: 40 sees: super.sees(x) * 3. 41 goes: super.goes(x + 1).");
        e.due("3 times the most", x.act(3, SEES, MOST ^ 3), MOST - 2);
        e.due("one more than the most", x.act(3, GOES, MOST), -2 * (LEAST + 3));
        e.says("Terms 5", "HEARD: 50 tells: super.tells(x) ^ 5.");
        e.due("of the most", x.act(4, TELLS, MOST), (2 * (LEAST + 6) - (1 ^ 4)) ^ 5);
        e.due("of -7: 0 less 5", x.act(4, TELLS, -7), -5 ^ 5);
        e.says("Terms 5", "BEST: 60 sees: super.sees(x) - takes(2). 61 tells: super.tells(x) + 1.");
        e.due("below the least", x.act(5, SEES, LEAST ^ 5), MOST - 6);
        e.due("of the most", x.act(5, TELLS, MOST), -2 * (LEAST + 5) - (3 * 4 - 7) + 1);
        e.says("Terms 5", "CROSSED: 80 goes: super.goes(x) + sees(2). 81 takes: super.takes(x) - 1.");
        e.due("one less than the least", x.act(7, TAKES, HALF - 7), MOST);
        e.due("twice the most and 5", x.act(7, GOES, HALF - 7), -2 + 5);
        e.due("twice -1 and 5", x.act(7, GOES, -7), -2 + 5);
    }

    private void nextKindAbove() {
        e.says("Terms 5", "takes(..) and so on: the body of its own KIND, or of the next KIND above that has one");
        int[][] first = {{1, 10, 11, 2}, {20, 10, 11, 2}, {1, 30, 11, 2}, {1, 41, 40, 2}, {20, 10, 11, 50}, {1, 41, 60, 61}, {70, 10, 11, 2}, {81, 80, 11, 2}};
        PastOnce x = Laid.eightBodies();
        for (int kind = 0; kind <= 7; kind++) {
            for (int act = 0; act <= 3; act++) {
                x.act(kind, act, 5);
                e.due("KIND " + kind + ", act " + act, x.trace(0), first[kind][act]);
            }
        }
        x.act(4, GOES, 5);
        e.due("10 takes by its own KIND's", x.trace(1), 20);
        x.act(7, GOES, 5);
        e.due("10 takes by CROSSED's", x.trace(2), 81);
    }

    private void fromTheKindAbove() {
        e.says("Terms 5", "super: from the KIND above the body's on.");
        int[][] ran = {{20, 1}, {30, 10, 1}, {40, 11}, {41, 30, 10, 1}, {50, 2, 10, 20, 1, 11}, {60, 40, 11, 1}, {70, 1}, {81, 70, 1}, {80, 10, 81, 70, 1, 11}};
        int[][] call = {{1, TAKES}, {2, GOES}, {3, SEES}, {3, GOES}, {4, TELLS}, {5, SEES}, {6, TAKES}, {7, TAKES}, {7, GOES}};
        PastOnce x = Laid.eightBodies();
        for (int i = 0; i < ran.length; i++) {
            x.act(call[i][0], call[i][1], 5);
            for (int t = 0; t < ran[i].length; t++) {
                e.due("KIND " + call[i][0] + ", act " + call[i][1] + ", body " + t, x.trace(t), ran[i][t]);
            }
            e.due("KIND " + call[i][0] + ", act " + call[i][1] + ", bodies", x.count(5), ran[i].length);
        }
    }

    private void asTheyBegan() {
        e.says("Terms 5", "THE TRACE: numbers of the bodies that ran in the latest act(), as they began");
        PastOnce x = Laid.eightBodies();
        e.due("none yet", x.trace(0), Edge.BAD);
        x.act(5, TELLS, 5);
        int[] longest = {61, 2, 41, 30, 10, 1, 60, 40, 11, 1};
        for (int i = 0; i < longest.length; i++) {
            e.due("trace(" + i + ")", x.trace(i), longest[i]);
        }
        x.act(0, TAKES, 5);
        e.due("of the latest act", x.trace(0), 1);
        e.due("and nothing of the one ahead", x.trace(1), Edge.BAD);
    }

    // The longest act runs ten bodies: none ever comes to 24.
    private void firstOnes() {
        e.says("Terms 5", "the first 24 are kept.");
        PastOnce x = Laid.eightBodies();
        int most = 0;
        for (int kind = 0; kind <= 7; kind++) {
            for (int act = 0; act <= 3; act++) {
                x.act(kind, act, 5);
                int ran = x.count(5);
                most = Math.max(most, ran);
                e.due("the last that ran is kept", x.trace(ran - 1) == Edge.BAD ? 1 : 0, 0);
                e.due("none behind it", x.trace(ran), Edge.BAD);
                e.due("none at 23", x.trace(23), Edge.BAD);
                e.due("none at 24", x.trace(24), Edge.BAD);
            }
        }
        e.due("the most that ran", most, 10);
    }

    private void body() {
        e.says("Promise 30", "A BODY of a KIND (0 .. 7) is kept: its number. BAD, FULL.");
        e.between("body(kind)", 0, 7, Edge.BAD, kind -> new PastOnce().body(kind));
        PastOnce x = new PastOnce();
        for (int n = 0; n < 50; n++) {
            e.due("body", x.body(n % 8), n);
        }
        e.due("one more", x.body(0), Edge.FULL);
        e.due("one more of KIND 7", x.body(7), Edge.FULL);
        e.due("one more of KIND 8", x.body(8), Edge.BAD);
        e.due("one more of KIND -1", x.body(-1), Edge.BAD);
        e.due("the last one acts: GREEDY", x.act(49, TAKES, 0), 49 + 3);
    }

    private void act() {
        e.says("Promise 31", "An ACT (0 .. 3) of a BODY with x.");
        PastOnce x = Laid.eightBodies();
        int[][] due = {
            {5, 10, 5, 9},
            {9, 18, 4, 18},
            {7, -14, 7, -17},
            {8, -18, 18, -24},
            {12, 24, 1, 24 - 5 ^ 5},
            {10, -22, -7, -26},
            {22, 44, 3, 37},
            {23, 51, 2, 45}};
        for (int kind = 0; kind <= 7; kind++) {
            for (int act = 0; act <= 3; act++) {
                e.due("act(" + kind + ", " + act + ", 5)", x.act(kind, act, 5), due[kind][act]);
            }
        }
    }

    private void noTrace() {
        e.says("Promise 31", "0, and no TRACE then: no such BODY, ACT.");
        int[][] bad = {{-1, 0}, {8, 0}, {49, 0}, {50, 0}, {Integer.MIN_VALUE, 0}, {Integer.MAX_VALUE, 0}, {0, -1}, {0, 4}, {0, Integer.MIN_VALUE},
            {0, Integer.MAX_VALUE}, {8, 4}};
        for (int[] b : bad) {
            PastOnce x = Laid.eightBodies();
            x.act(0, TELLS, 5);
            e.due("some ran", x.count(5), 4);
            e.due("act(" + b[0] + ", " + b[1] + ", 5)", x.act(b[0], b[1], 5), 0);
            e.due("trace(0)", x.trace(0), Edge.BAD);
            e.due("bodies that ran", x.count(5), 0);
        }
        PastOnce x = Laid.eightBodies();
        e.due("the last BODY, the last ACT", x.act(7, 3, 5), 45);
        e.due("trace(0)", x.trace(0), 2);
    }

    private void trace() {
        e.says("Promise 32", "THE TRACE's i-th body. BAD.");
        PastOnce x = Laid.eightBodies();
        e.between("trace(i) of one", 0, 0, Edge.BAD, i -> {
            x.act(0, TAKES, 5);
            return x.trace(i);
        });
        e.between("trace(i) of four", 0, 3, Edge.BAD, i -> {
            x.act(0, TELLS, 5);
            return x.trace(i);
        });
        e.between("trace(i) of ten", 0, 9, Edge.BAD, i -> {
            x.act(5, TELLS, 5);
            return x.trace(i);
        });
        e.due("none ran", new PastOnce().trace(0), Edge.BAD);
    }
}
