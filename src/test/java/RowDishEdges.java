/** Edges of DISHES FROM A ROW (Terms 5) and of promise 3. */
final class RowDishEdges {
    private final Edge e;

    RowDishEdges(Edge e) {
        this.e = e;
    }

    void all() {
        byFours();
        missing();
        ends();
        notAsItMayBe();
        full();
        howMany();
        refused();
    }

    private static PastOnce with(int... bytes) {
        PastOnce x = new PastOnce();
        Check.bytes(x, 0, bytes);
        return x;
    }

    private void isDish(PastOnce x, int n, int worth, int space, int spoons, int sort) {
        int[] due = {worth, 1, space, spoons, sort, 0, 10, 12};
        for (int what = 0; what <= 7; what++) {
            e.due("of(" + n + ", " + what + ")", x.of(n, what), due[what]);
        }
    }

    private void byFours() {
        e.says("Terms 5", "DISHES FROM A ROW of bytes, from place i on: by fours WORTH, SPACE, SPOONS, SORT: n of them");
        PastOnce x = with(20, 9, 0, 4, 0, 1, 9, 0, 7, 2, 3, 1);
        e.due("two from place 0 on", x.dishes(0, 0, 2), 2);
        isDish(x, 0, 20, 9, 0, 4);
        isDish(x, 1, 0, 1, 9, 0);
        e.due("no more came", x.count(0), 2);
        e.due("one from place 8 on", x.dishes(0, 8, 1), 1);
        isDish(x, 2, 7, 2, 3, 1);
        e.due("from place 7 on: 0, 7, 2, 3", x.dishes(0, 7, 1), 1);
        isDish(x, 3, 0, 7, 2, 3);
    }

    private void missing() {
        e.says("Terms 5", "it ends where the row is missing");
        PastOnce x = with(5, 3, 4, 0);
        e.due("nothing is there", x.dishes(1, 0, 1), 0);
        x.keep(0, -1);
        e.due("nothing is there any more", x.dishes(0, 0, 9), 0);
        e.due("none came", x.count(0), 0);
    }

    private void ends() {
        e.says("Terms 5", "ends (within a four, too)");
        e.due("a ROW of none", with().dishes(0, 0, 1), 0);
        e.due("three bytes", with(5, 3, 4).dishes(0, 0, 1), 0);
        e.due("four bytes", with(5, 3, 4, 0).dishes(0, 0, 1), 1);
        e.due("four bytes, two DISHES wanted", with(5, 3, 4, 0).dishes(0, 0, 2), 1);
        int[] more = {5, 3, 4, 0, 6, 3, 4, 0};
        for (int length = 5; length <= 7; length++) {
            PastOnce x = with(java.util.Arrays.copyOf(more, length));
            e.due(length + " bytes", x.dishes(0, 0, 2), 1);
            e.due("one came", x.count(0), 1);
        }
        e.due("eight bytes", with(more).dishes(0, 0, 2), 2);
        e.due("from the last four on", with(more).dishes(0, 4, 2), 1);
        e.due("from the last three on", with(3, 3, 3, 3, 3, 3, 3, 3).dishes(0, 5, 1), 0);
        e.due("from the last one on", with(more).dishes(0, 7, 1), 0);
        e.due("from behind the last one on", with(more).dishes(0, 8, 1), 0);
        e.due("from far behind on", with(more).dishes(0, Integer.MAX_VALUE, 9), 0);
        e.due("from far behind on, by fours", with(more).dishes(0, Integer.MAX_VALUE - 3, 9), 0);
        PastOnce shorter = with(more);
        Check.bytes(shorter, 0, 9, 9, 9, 4, 6, 3, 4);
        e.due("seven where eight were", shorter.dishes(0, 0, 2), 1);
        PastOnce x = new PastOnce();
        x.row(0, 0, 60);
        x.put(0, 57, 3);
        e.due("the last four of 60: SPACE 3 and nothing else", x.dishes(0, 56, 9), 1);
    }

    private void notAsItMayBe() {
        e.says("Terms 5", "one is not as it may be");
        int[][] bounds = {{0, 20}, {1, 9}, {0, 9}, {0, 4}};
        for (int at = 0; at < 4; at++) {
            int place = at;
            e.between("byte " + at + " of the first four", bounds[at][0], bounds[at][1], 0, v -> changed(place, v).dishes(0, 0, 3));
            e.between("byte " + at + " of the second four", bounds[at][0], bounds[at][1], 1, v -> changed(4 + place, v).dishes(0, 0, 3));
        }
        PastOnce x = changed(4, 21);
        e.due("those ahead came", x.dishes(0, 0, 3), 1);
        e.due("and none behind", x.count(0), 1);
    }

    /** Three fours, one byte of them another one; what no byte can be is told by one that is out of all bounds. */
    private static PastOnce changed(int place, int v) {
        int[] bytes = {5, 3, 4, 0, 6, 3, 4, 1, 7, 3, 4, 2};
        bytes[place] = v > 127 ? 127 : v < -128 ? -128 : v;
        return with(bytes);
    }

    private void full() {
        e.says("Terms 5", "or DISHES are FULL: those ahead came.");
        PastOnce x = new PastOnce();
        for (int n = 0; n < 7; n++) {
            x.dish(53, 0);
        }
        Check.bytes(x, 0, 1, 1, 1, 1, 2, 2, 2, 2, 3, 3, 3, 3);
        e.due("two of three", x.dishes(0, 0, 3), 2);
        e.due("nine now", x.count(0), 9);
        isDish(x, 8, 2, 2, 2, 2);
        e.due("none", x.dishes(0, 0, 1), 0);
        x = new PastOnce();
        x.row(0, 0, 60);
        for (int i = 1; i < 60; i += 4) {
            x.put(0, i, 3);
        }
        e.due("nine at once", x.dishes(0, 0, 9), 9);
        e.due("nine are there", x.count(0), 9);
    }

    private void howMany() {
        e.says("Promise 3", "DISHES FROM A ROW on a SHELF, from place i on, n (1 .. 9) of them: how many came (0 with i below 0).");
        e.between("dishes(0, 0, n)", 1, 9, Edge.BAD, n -> with(5, 3, 4, 0).dishes(0, 0, n));
        e.due("dishes(0, 0, 0)", with(5, 3, 4, 0).dishes(0, 0, 0), Edge.BAD);
        int[] below = {-1, -4, Integer.MIN_VALUE};
        for (int i : below) {
            PastOnce x = with(5, 3, 4, 0, 5, 3, 4, 0);
            e.due("dishes(0, " + i + ", 9)", x.dishes(0, i, 9), 0);
            e.due("none came", x.count(0), 0);
        }
        e.due("dishes(0, 0, 9)", with(5, 3, 4, 0, 5, 3, 4, 0).dishes(0, 0, 9), 2);
    }

    private void refused() {
        e.says("Promise 3", "BAD, -12 (no ROW of bytes; a SHELF that holds nothing is missing).");
        e.between("dishes(shelf, 0, 1)", 0, 5, Edge.BAD, shelf -> new PastOnce().dishes(shelf, 0, 1));
        for (int shelf = 0; shelf <= 5; shelf++) {
            PastOnce x = new PastOnce();
            x.body(0);
            e.due("nothing is there", x.dishes(shelf, 0, 1), 0);
            for (int sort = 1; sort <= 4; sort++) {
                x.row(shelf, sort, 8);
                e.due("a ROW of sort " + sort, x.dishes(shelf, 0, 1), Edge.OTHER);
                e.due("a ROW of sort " + sort + ", n 0", x.dishes(shelf, 0, 0), Edge.BAD);
                x.row(shelf, sort, 0);
                e.due("a ROW of sort " + sort + " of none", x.dishes(shelf, 0, 1), Edge.OTHER);
            }
            x.keep(shelf, 0);
            e.due("a BODY", x.dishes(shelf, 0, 1), Edge.OTHER);
            e.due("none came", x.count(0), 0);
        }
    }
}
