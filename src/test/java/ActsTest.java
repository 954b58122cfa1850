/** Promises 30 to 39: body, act, trace, keep, row, put, element, shift, taken, count. */
public final class ActsTest {
    private static final Check C = new Check("ActsTest");

    public static void main(String[] args) {
        body();
        act();
        actRefused();
        trace();
        keep();
        row();
        put();
        element();
        shift();
        taken();
        count();
        C.finish();
    }

    private static PastOnce withEight() {
        PastOnce x = new PastOnce();
        for (int kind = 0; kind < 8; kind++) {
            x.body(kind);
        }
        return x;
    }

    private static void body() {
        PastOnce x = new PastOnce();
        C.due("30: kind 8", x.body(8), PastOnce.BAD);
        C.due("30: kind -1", x.body(-1), PastOnce.BAD);
        for (int n = 0; n < 50; n++) {
            C.due("30: its number", x.body(n % 8), n);
        }
        C.due("30: full", x.body(0), PastOnce.FULL);
        C.due("30: BAD ahead of FULL", x.body(8), PastOnce.BAD);
        C.due("30: fifty", x.count(4), 50);
        C.due("30: the last one acts", x.act(49, 0, 1), 1 + 49 + 3);
    }

    // Bodies are their KIND by number: n = KIND.
    private static void act() {
        PastOnce x = withEight();
        int v = 100;
        int[][] due = {
            {100, 200, 100, 200 - 1},
            {104, 208, 101, 208 - 0},
            {102, -204, 102, -204 - 3},
            {103, -208, 309, -208 - 6},
            {107, 214, 96, (214 - 5) ^ 5},
            {105, -212, (100 ^ 5) * 3 - 7, -212 - (4 * 3 - 7) + 1},
            {212, 424, 98, 424 - 7},
            {213, 426 + 5, 99, 431 - 6}};
        for (int kind = 0; kind < 8; kind++) {
            for (int act = 0; act < 4; act++) {
                C.due("31: act(" + kind + ", " + act + ", 100)", x.act(kind, act, v), due[kind][act]);
            }
        }
        C.due("31: it wraps", x.act(0, 1, Integer.MAX_VALUE), -2);
        C.due("31: it wraps below", x.act(6, 0, Integer.MIN_VALUE), 12);
    }

    private static void actRefused() {
        PastOnce x = withEight();
        int[][] bad = {{8, 0}, {-1, 0}, {0, 4}, {0, -1}, {50, 9}, {Integer.MAX_VALUE, 0}};
        for (int[] b : bad) {
            x.act(0, 3, 1);
            C.due("31: no such", x.act(b[0], b[1], 7), 0);
            C.due("31: no TRACE then", x.trace(0), PastOnce.BAD);
            C.due("31: none ran", x.count(5), 0);
        }
    }

    private static void trace() {
        PastOnce x = withEight();
        C.due("32: none yet", x.trace(0), PastOnce.BAD);
        int[][] due = {
            {2, 10, 1, 11},
            {2, 10, 20, 1, 11},
            {2, 30, 10, 1, 11},
            {2, 41, 30, 10, 1, 40, 11},
            {50, 2, 10, 20, 1, 11},
            {61, 2, 41, 30, 10, 1, 60, 40, 11, 1},
            {2, 10, 70, 1, 11},
            {2, 80, 10, 81, 70, 1, 11, 11}};
        for (int kind = 0; kind < 8; kind++) {
            x.act(kind, 3, 5);
            for (int i = 0; i < due[kind].length; i++) {
                C.due("32: KIND " + kind + ", trace(" + i + ")", x.trace(i), due[kind][i]);
            }
            C.due("32: behind the last", x.trace(due[kind].length), PastOnce.BAD);
            C.due("32: all that ran", x.count(5), due[kind].length);
        }
        C.due("32: -1", x.trace(-1), PastOnce.BAD);
        C.due("32: far", x.trace(Integer.MAX_VALUE), PastOnce.BAD);
    }

    private static void keep() {
        PastOnce x = withEight();
        C.due("33: a BODY", x.keep(0, 7), 1);
        C.due("33: it is there", x.taken(0, 0), 7);
        C.due("33: no such BODY", x.keep(0, 8), PastOnce.BAD);
        C.due("33: -2", x.keep(0, -2), PastOnce.BAD);
        C.due("33: shelf 6", x.keep(6, 0), PastOnce.BAD);
        C.due("33: shelf -1", x.keep(-1, -1), PastOnce.BAD);
        C.due("33: it stays", x.taken(0, 0), 7);
        C.due("33: nothing", x.keep(0, -1), 1);
        C.due("33: nothing is there", x.taken(0, 0), -11);
        x.row(5, 0, 3);
        C.due("33: over a ROW", x.keep(5, 0), 1);
        C.due("33: the ROW is gone", x.put(5, 0, 1), -12);
    }

    private static void row() {
        PastOnce x = withEight();
        for (int sort = 0; sort < 5; sort++) {
            C.due("34: of 60", x.row(sort, sort, 60), 1);
            C.due("34: 0 at first", x.element(sort, 59), 0);
            C.due("34: no more", x.element(sort, 60), Long.MIN_VALUE);
        }
        x.put(0, 0, 9);
        C.due("34: 61", x.row(0, 0, 61), PastOnce.BAD);
        C.due("34: -1", x.row(0, 0, -1), -14);
        C.due("34: far below", x.row(0, 0, Integer.MIN_VALUE), -14);
        C.due("34: sort 5", x.row(0, 5, 1), PastOnce.BAD);
        C.due("34: sort -1", x.row(0, -1, 1), PastOnce.BAD);
        C.due("34: BAD ahead of -14", x.row(0, 5, -1), PastOnce.BAD);
        C.due("34: shelf 6", x.row(6, 0, 1), PastOnce.BAD);
        C.due("34: shelf -1", x.row(-1, 0, -1), PastOnce.BAD);
        C.due("34: it stays", x.element(0, 0), 9);
        x.put(1, 0, 7);
        C.due("34: a new one", x.row(0, 0, 60), 1);
        C.due("34: the next shelf stays", x.element(1, 0), 7);
        C.due("34: 0 again", x.element(0, 0), 0);
        C.due("34: of none", x.row(0, 3, 0), 1);
        C.due("34: no place", x.put(0, 0, 1), -13);
        x.keep(0, 1);
        C.due("34: over a BODY", x.row(0, 0, 1), 1);
        C.due("34: the BODY is gone", x.taken(0, 0), -12);
    }

    private static void put() {
        PastOnce x = withEight();
        long v = 0x123456789abcdef8L;
        long[] low = {(byte) 0xf8, (short) 0xdef8, 0x9abcdef8, v, 1};
        for (int sort = 0; sort < 5; sort++) {
            x.row(1, sort, 3);
            C.due("35: put", x.put(1, 1, v), 1);
            C.due("35: its lowest bits", x.element(1, 1), low[sort]);
            C.due("35: the one ahead stays", x.element(1, 0), 0);
            C.due("35: the one behind stays", x.element(1, 2), 0);
            C.due("35: 0 again", x.put(1, 1, 0), 1);
            C.due("35: it is so", x.element(1, 1), 0);
        }
        C.due("35: 256 is true", x.put(1, 0, 256), 1);
        C.due("35: 1", x.element(1, 0), 1);
        C.due("35: place 3", x.put(1, 3, 1), -13);
        C.due("35: place -1", x.put(1, -1, 1), -13);
        C.due("35: nothing there", x.put(2, 0, 1), -11);
        x.keep(2, 0);
        C.due("35: a BODY", x.put(2, -1, 1), -12);
        C.due("35: shelf 6", x.put(6, 0, 1), PastOnce.BAD);
        C.due("35: shelf -1", x.put(-1, 0, 1), PastOnce.BAD);
    }

    private static void element() {
        PastOnce x = withEight();
        x.row(0, 3, 2);
        x.put(0, 0, Long.MAX_VALUE);
        x.put(0, 1, -5);
        C.due("36: place 0", x.element(0, 0), Long.MAX_VALUE);
        C.due("36: place 1", x.element(0, 1), -5);
        C.due("36: place 2", x.element(0, 2), Long.MIN_VALUE);
        C.due("36: place -1", x.element(0, -1), Long.MIN_VALUE);
        C.due("36: nothing there", x.element(1, 0), Long.MIN_VALUE);
        x.keep(1, 0);
        C.due("36: a BODY", x.element(1, 0), Long.MIN_VALUE);
        C.due("36: shelf 6", x.element(6, 0), Long.MIN_VALUE);
        C.due("36: shelf -1", x.element(-1, 0), Long.MIN_VALUE);
    }

    private static void isRow(String what, PastOnce x, int shelf, int... due) {
        for (int i = 0; i < due.length; i++) {
            C.due(what + ", element " + i, x.element(shelf, i), due[i]);
        }
    }

    private static void shift() {
        PastOnce x = withEight();
        Check.bytes(x, 0, 1, 2, 3, 4, 5);
        Check.bytes(x, 1, 9, 9, 9);
        C.due("37: to another", x.shift(0, 3, 1, 1, 2), 2);
        isRow("37: to another", x, 1, 9, 4, 5);
        C.due("37: up", x.shift(0, 0, 0, 1, 4), 4);
        isRow("37: up", x, 0, 1, 1, 2, 3, 4);
        C.due("37: down", x.shift(0, 1, 0, 0, 4), 4);
        isRow("37: down", x, 0, 1, 2, 3, 4, 4);
        C.due("37: the whole ROW", x.shift(1, 0, 1, 0, 3), 3);
        C.due("37: none, at the end of both", x.shift(0, 5, 1, 3, 0), 0);
        int[][] nowhere = {{0, 6, 1, 0, 0}, {0, 0, 1, 4, 0}, {0, -1, 1, 0, 1}, {0, 0, 1, -1, 1}, {0, 0, 1, 0, -1}, {0, 0, 1, 0, 4}, {0, 4, 1, 0, 2},
            {0, 0, 1, 2, 2}, {0, 1, 1, 0, Integer.MAX_VALUE}, {0, Integer.MAX_VALUE, 1, 0, 1}, {0, 0, 1, Integer.MAX_VALUE, 1},
            {0, 0, 1, 0, Integer.MIN_VALUE}};
        for (int[] n : nowhere) {
            C.due("37: no such place", x.shift(n[0], n[1], n[2], n[3], n[4]), -13);
        }
        isRow("37: nothing came", x, 1, 9, 4, 5);
        C.due("37: nothing there", x.shift(0, 0, 3, 0, 1), -11);
        C.due("37: nothing there, first", x.shift(3, 0, 0, 0, 1), -11);
        x.keep(2, 0);
        C.due("37: -11 ahead of -12", x.shift(2, 0, 3, 0, 1), -11);
        C.due("37: a BODY", x.shift(2, 0, 0, 0, 1), -12);
        C.due("37: to a BODY", x.shift(0, 0, 2, 0, 1), -12);
        C.due("37: two BODIES", x.shift(2, 0, 2, 0, 1), -12);
        x.row(4, 4, 9);
        C.due("37: unlike sorts, ahead of -13", x.shift(0, 0, 4, 0, 99), -12);
        C.due("37: shelf 6", x.shift(6, 0, 0, 0, 1), PastOnce.BAD);
        C.due("37: other -1", x.shift(3, 0, -1, 0, 1), PastOnce.BAD);
    }

    private static void taken() {
        PastOnce x = withEight();
        String[] under = {"0", "01", "02", "023", "014", "0235", "06", "067"};
        for (int kind = 0; kind < 8; kind++) {
            x.keep(0, kind);
            for (int k = 0; k < 8; k++) {
                boolean so = under[kind].indexOf('0' + k) >= 0;
                C.due("38: KIND " + kind + " for " + k, x.taken(0, k), so ? kind : -12);
            }
        }
        C.due("38: k 8", x.taken(0, 8), PastOnce.BAD);
        C.due("38: k -1", x.taken(0, -1), PastOnce.BAD);
        C.due("38: shelf 6", x.taken(6, 0), PastOnce.BAD);
        C.due("38: shelf -1", x.taken(-1, 0), PastOnce.BAD);
        C.due("38: nothing there", x.taken(1, 0), -11);
        x.row(1, 0, 3);
        C.due("38: a ROW", x.taken(1, 0), -12);
    }

    private static void count() {
        PastOnce x = withEight();
        x.dish(53, 0);
        x.dish(53, 0);
        x.mend(1, 3, 7);
        x.mend(1, 3, 6);
        x.take();
        x.feed('w');
        x.feed('w');
        x.feed('w');
        x.act(0, 1, 0);
        int[] due = {2, 9, 3, 2, 8, 2};
        for (int what = 0; what <= 5; what++) {
            C.due("39: count(" + what + ")", x.count(what), due[what]);
        }
        C.due("39: 6", x.count(6), PastOnce.BAD);
        C.due("39: -1", x.count(-1), PastOnce.BAD);
    }
}
