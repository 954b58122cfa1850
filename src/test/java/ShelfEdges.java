/** Edges of SHELVES and the host's REFUSALS (Terms 5) and of promises 33 to 39. */
final class ShelfEdges {
    private static final int BYTES = 0, SHORTS = 1, INTS = 2, LONGS = 3, BOOLEANS = 4;

    private final Edge e;

    ShelfEdges(Edge e) {
        this.e = e;
    }

    void all() {
        sixShelves();
        sorts();
        sixtyElements();
        lowestBits();
        booleans();
        nothingIsThere();
        otherKind();
        placeNotThere();
        sizeBelowZero();
        keep();
        row();
        put();
        element();
        shift();
        asTheyWereBefore();
        shiftRefused();
        taken();
        takenRefused();
        count();
    }

    private static PastOnce oneBody() {
        PastOnce x = new PastOnce();
        x.body(0);
        return x;
    }

    /** A ROW of ints 1, 2 and so on. */
    private static PastOnce counted(int shelf, int length) {
        PastOnce x = oneBody();
        x.row(shelf, INTS, length);
        for (int i = 0; i < length; i++) {
            x.put(shelf, i, i + 1);
        }
        return x;
    }

    private void isRow(String what, PastOnce x, int shelf, long... due) {
        for (int i = 0; i < due.length; i++) {
            e.due(what + ", element " + i, x.element(shelf, i), due[i]);
        }
    }

    private void sixShelves() {
        e.says("Terms 5", "SHELVES 0 .. 5 each hold nothing (at first), a BODY, or a ROW");
        PastOnce x = Laid.eightBodies();
        for (int shelf = 0; shelf <= 5; shelf++) {
            e.due("nothing at first on " + shelf, x.taken(shelf, 0), Edge.NOTHING);
            e.due("nothing at first on " + shelf, x.put(shelf, 0, 1), Edge.NOTHING);
        }
        for (int shelf = 0; shelf <= 5; shelf++) {
            x.keep(shelf, shelf);
            x.row((shelf + 5) % 6, LONGS, 60);
            x.put((shelf + 5) % 6, 59, shelf);
            e.due("a BODY on " + shelf, x.taken(shelf, 0), shelf);
            e.due("a ROW on the one ahead", x.element((shelf + 5) % 6, 59), shelf);
        }
        e.between("keep(shelf, 0)", 0, 5, Edge.BAD, shelf -> oneBody().keep(shelf, 0));
        e.between("row(shelf, 0, 1)", 0, 5, Edge.BAD, shelf -> oneBody().row(shelf, 0, 1));
        PastOnce y = new PastOnce();
        for (int shelf = 0; shelf <= 5; shelf++) {
            y.row(shelf, BYTES, 60);
            y.put(shelf, 0, shelf + 1);
            y.put(shelf, 59, shelf + 11);
        }
        for (int shelf = 0; shelf <= 5; shelf++) {
            e.due("the first of " + shelf, y.element(shelf, 0), shelf + 1);
            e.due("the last of " + shelf, y.element(shelf, 59), shelf + 11);
        }
    }

    private void sorts() {
        e.says("Terms 5", "of 0 bytes, 1 shorts, 2 ints, 3 longs, 4 booleans");
        e.between("row(0, sort, 1)", 0, 4, Edge.BAD, sort -> oneBody().row(0, sort, 1));
        long v = 0x7edcba9876543210L;
        long[] due = {0x10, 0x3210, 0x76543210, v, 1};
        for (int sort = 0; sort <= 4; sort++) {
            PastOnce x = new PastOnce();
            x.row(0, sort, 1);
            x.put(0, 0, v);
            e.due("sort " + sort, x.element(0, 0), due[sort]);
        }
    }

    private void sixtyElements() {
        e.says("Terms 5", "of 0 .. 60 elements, 0 at first (false)");
        for (int sort = 0; sort <= 4; sort++) {
            PastOnce x = oneBody();
            e.due("of none", x.row(0, sort, 0), 1);
            e.due("no element 0", x.element(0, 0), Edge.NO_NUMBER);
            e.due("of one", x.row(0, sort, 1), 1);
            e.due("element 0", x.element(0, 0), 0);
            e.due("no element 1", x.element(0, 1), Edge.NO_NUMBER);
            e.due("of 60", x.row(0, sort, 60), 1);
            for (int i = 0; i < 60; i++) {
                e.due("element " + i, x.element(0, i), 0);
                x.put(0, i, 1);
                e.due("element " + i, x.element(0, i), 1);
            }
            e.due("no element 60", x.element(0, 60), Edge.NO_NUMBER);
            e.due("of 61", x.row(0, sort, 61), Edge.BAD);
            e.due("it stays", x.element(0, 59), 1);
            e.due("of 60 again", x.row(0, sort, 60), 1);
            e.due("0 again", x.element(0, 0), 0);
            e.due("0 again", x.element(0, 59), 0);
        }
    }

    private void putIs(PastOnce x, long v, long due) {
        e.due("put " + v, x.put(0, 0, v), 1);
        e.due("element of " + v, x.element(0, 0), due);
    }

    private void lowestBits() {
        e.says("Terms 5", "what is put in keeps its lowest bits");
        PastOnce x = new PastOnce();
        x.row(0, BYTES, 1);
        long[][] bytes = {{127, 127}, {128, -128}, {-128, -128}, {-129, 127}, {255, -1}, {256, 0}, {-1, -1}, {1L << 40, 0}, {Long.MAX_VALUE, -1},
            {Long.MIN_VALUE, 0}};
        for (long[] b : bytes) {
            putIs(x, b[0], b[1]);
        }
        x.row(0, SHORTS, 1);
        long[][] shorts = {{32767, 32767}, {32768, -32768}, {-32768, -32768}, {-32769, 32767}, {65535, -1}, {65536, 0}, {Long.MAX_VALUE, -1},
            {Long.MIN_VALUE, 0}};
        for (long[] s : shorts) {
            putIs(x, s[0], s[1]);
        }
        x.row(0, INTS, 1);
        long[][] ints = {{Integer.MAX_VALUE, Integer.MAX_VALUE}, {1L << 31, Integer.MIN_VALUE}, {Integer.MIN_VALUE, Integer.MIN_VALUE},
            {Integer.MIN_VALUE - 1L, Integer.MAX_VALUE}, {(1L << 32) - 1, -1}, {1L << 32, 0}, {Long.MAX_VALUE, -1}, {Long.MIN_VALUE, 0}};
        for (long[] i : ints) {
            putIs(x, i[0], i[1]);
        }
        x.row(0, LONGS, 1);
        long[] longs = {Long.MAX_VALUE, Long.MIN_VALUE, Long.MIN_VALUE + 1, 1L << 32, -1, 0};
        for (long l : longs) {
            putIs(x, l, l);
        }
    }

    private void booleans() {
        e.says("Terms 5", "(a boolean: whether it is not 0; 1 or 0)");
        PastOnce x = new PastOnce();
        x.row(0, BOOLEANS, 1);
        long[] all = {1, 0, -1, 0, 2, 0, 256, 1L << 32, 0, Long.MIN_VALUE, Long.MAX_VALUE, 0};
        for (long v : all) {
            putIs(x, v, v == 0 ? 0 : 1);
        }
    }

    private void nothingIsThere() {
        e.says("Terms 5", "The host's REFUSALS: -11 nothing is there where something is wanted;");
        PastOnce x = oneBody();
        x.dish(53, 0);
        for (int turn = 0; turn < 2; turn++) {
            e.due("put", x.put(0, 0, 1), Edge.NOTHING);
            e.due("shift", x.shift(0, 0, 0, 0, 0), Edge.NOTHING);
            e.due("taken", x.taken(0, 0), Edge.NOTHING);
            e.due("left", x.left(0, 0), Edge.NOTHING);
            e.due("judge", x.judge(0), Edge.NOTHING);
            e.due("ways", x.ways(0), Edge.NOTHING);
            x.row(0, BYTES, 1);
            e.due("put", x.put(0, 0, 1), 1);
            x.keep(0, -1);
        }
    }

    private void otherKind() {
        e.says("Terms 5", "-12 it is of another kind;");
        PastOnce x = oneBody();
        x.dish(53, 0);
        x.keep(0, 0);
        e.due("put to a BODY", x.put(0, 0, 1), Edge.OTHER);
        e.due("shift from a BODY", x.shift(0, 0, 0, 0, 0), Edge.OTHER);
        e.due("left by a BODY", x.left(0, 0), Edge.OTHER);
        e.due("judge by a BODY", x.judge(0), Edge.OTHER);
        e.due("ways by a BODY", x.ways(0), Edge.OTHER);
        e.due("dishes from a BODY", x.dishes(0, 0, 1), Edge.OTHER);
        e.due("a TAKER taken for a GREEDY", x.taken(0, 1), Edge.OTHER);
        x.row(0, SHORTS, 4);
        e.due("left by shorts", x.left(0, 0), Edge.OTHER);
        e.due("judge by shorts", x.judge(0), Edge.OTHER);
        e.due("ways by shorts", x.ways(0), Edge.OTHER);
        e.due("dishes from shorts", x.dishes(0, 0, 1), Edge.OTHER);
        e.due("shorts taken for a BODY", x.taken(0, 0), Edge.OTHER);
    }

    private void placeNotThere() {
        e.says("Terms 5", "-13 a place that is not there;");
        for (int length = 0; length <= 60; length += 20) {
            PastOnce x = counted(0, length);
            e.due("put at -1 of " + length, x.put(0, -1, 1), Edge.NO_PLACE);
            e.due("put at " + length, x.put(0, length, 1), Edge.NO_PLACE);
            e.due("put at the last", x.put(0, length - 1, 1), length == 0 ? Edge.NO_PLACE : 1);
            e.due("put at the first", x.put(0, 0, 1), length == 0 ? Edge.NO_PLACE : 1);
        }
    }

    private void sizeBelowZero() {
        e.says("Terms 5", "-14 a size below 0.");
        PastOnce x = counted(0, 3);
        e.due("row of -1", x.row(0, BYTES, -1), Edge.NO_SIZE);
        e.due("row of the least", x.row(0, BYTES, Integer.MIN_VALUE), Edge.NO_SIZE);
        isRow("it stays", x, 0, 1, 2, 3);
        e.due("row of 0", x.row(0, BYTES, 0), 1);
    }

    private void keep() {
        e.says("Promise 33", "A SHELF holds nothing (body -1), or a BODY: 1. BAD.");
        e.between("keep(shelf, -1)", 0, 5, Edge.BAD, shelf -> new PastOnce().keep(shelf, -1));
        e.between("keep(0, body) of none", -1, -1, Edge.BAD, body -> new PastOnce().keep(0, body));
        e.between("keep(0, body) of one", -1, 0, Edge.BAD, body -> oneBody().keep(0, body));
        e.between("keep(0, body) of eight", -1, 7, Edge.BAD, body -> Laid.eightBodies().keep(0, body));
        PastOnce x = Laid.eightBodies();
        e.due("a BODY", x.keep(0, 7), 1);
        e.due("it is there", x.taken(0, 0), 7);
        e.due("another one", x.keep(0, 3), 1);
        e.due("it is there", x.taken(0, 0), 3);
        e.due("nothing", x.keep(0, -1), 1);
        e.due("nothing is there", x.taken(0, 0), Edge.NOTHING);
        e.due("nothing again", x.keep(0, -1), 1);
        x.row(0, INTS, 3);
        e.due("a BODY where a ROW was", x.keep(0, 7), 1);
        e.due("the ROW is gone", x.put(0, 0, 1), Edge.OTHER);
        x.row(0, INTS, 3);
        e.due("nothing where a ROW was", x.keep(0, -1), 1);
        e.due("the ROW is gone", x.put(0, 0, 1), Edge.NOTHING);
    }

    private void row() {
        e.says("Promise 34", "A SHELF holds a ROW: 1. BAD (sort, n above 60); -14.");
        e.between("row(shelf, 0, 60)", 0, 5, Edge.BAD, shelf -> new PastOnce().row(shelf, 0, 60));
        e.between("row(0, sort, 60)", 0, 4, Edge.BAD, sort -> new PastOnce().row(0, sort, 60));
        int[] n = {Integer.MIN_VALUE, -1, 0, 60, 61, Integer.MAX_VALUE};
        int[] due = {Edge.NO_SIZE, Edge.NO_SIZE, 1, 1, Edge.BAD, Edge.BAD};
        for (int i = 0; i < n.length; i++) {
            e.due("row(0, 0, " + n[i] + ")", new PastOnce().row(0, 0, n[i]), due[i]);
            e.due("row(0, 5, " + n[i] + ")", new PastOnce().row(0, 5, n[i]), Edge.BAD);
            e.due("row(6, 0, " + n[i] + ")", new PastOnce().row(6, 0, n[i]), Edge.BAD);
        }
        PastOnce x = counted(0, 3);
        x.keep(1, 0);
        e.due("a new one", x.row(0, INTS, 2), 1);
        isRow("0 at first", x, 0, 0, 0);
        e.due("no element 2", x.element(0, 2), Edge.NO_NUMBER);
        e.due("a ROW where a BODY was", x.row(1, BOOLEANS, 1), 1);
        e.due("it is there", x.put(1, 0, 5), 1);
        e.due("the BODY is gone", x.taken(1, 0), Edge.OTHER);
    }

    private void put() {
        e.says("Promise 35", "Element i of a ROW becomes v: 1. BAD, -11, -12, -13.");
        e.between("put(shelf, 0, 1)", 0, 5, Edge.BAD, shelf -> new PastOnce().put(shelf, 0, 1));
        PastOnce x = counted(2, 3);
        e.between("put(2, i, 7)", 0, 2, Edge.NO_PLACE, i -> x.put(2, i, 7));
        isRow("the first and the last became 7", x, 2, 7, 2, 7);
        e.due("nothing is there", x.put(3, 0, 1), Edge.NOTHING);
        e.due("nothing is there, nor the place", x.put(3, -1, 1), Edge.NOTHING);
        x.keep(3, 0);
        e.due("a BODY", x.put(3, 0, 1), Edge.OTHER);
        e.due("a BODY, nor the place", x.put(3, 60, 1), Edge.OTHER);
        e.due("no SHELF, nor the place", x.put(6, -1, 1), Edge.BAD);
    }

    private void element() {
        e.says("Promise 36", "Element i of a ROW; Long.MIN_VALUE: BAD, -11 to -13.");
        PastOnce x = oneBody();
        for (int shelf = 0; shelf <= 5; shelf++) {
            x.row(shelf, LONGS, 3);
            x.put(shelf, 0, 5);
            x.put(shelf, 2, -7);
        }
        e.between("element(shelf, 0)", 0, 5, Edge.NO_NUMBER, shelf -> x.element(shelf, 0));
        e.between("element(0, i)", 0, 2, Edge.NO_NUMBER, i -> x.element(0, i));
        isRow("a ROW", x, 5, 5, 0, -7);
        x.keep(1, -1);
        e.due("nothing is there", x.element(1, 0), Edge.NO_NUMBER);
        x.keep(1, 0);
        e.due("a BODY", x.element(1, 0), Edge.NO_NUMBER);
    }

    private void shift() {
        e.says("Promise 37", "n elements of a ROW from i on come to another one (or the same) from j on");
        PastOnce x = counted(0, 5);
        x.row(1, INTS, 4);
        e.due("none", x.shift(0, 0, 1, 0, 0), 0);
        isRow("none came", x, 1, 0, 0, 0, 0);
        e.due("the last to the first", x.shift(0, 4, 1, 0, 1), 1);
        isRow("it came", x, 1, 5, 0, 0, 0);
        e.due("the first to the last", x.shift(0, 0, 1, 3, 1), 1);
        isRow("it came", x, 1, 5, 0, 0, 1);
        e.due("the last four", x.shift(0, 1, 1, 0, 4), 4);
        isRow("they came", x, 1, 2, 3, 4, 5);
        isRow("they stay there, too", x, 0, 1, 2, 3, 4, 5);
        e.due("none, from behind the last to behind the last", x.shift(0, 5, 1, 4, 0), 0);
        for (int sort = 0; sort <= 4; sort++) {
            PastOnce y = new PastOnce();
            y.row(4, sort, 60);
            y.row(5, sort, 60);
            y.put(4, 0, 1);
            y.put(4, 59, 1);
            e.due("all of 60", y.shift(4, 0, 5, 0, 60), 60);
            e.due("the first came", y.element(5, 0), 1);
            e.due("the last came", y.element(5, 59), 1);
            e.due("the second is 0", y.element(5, 1), 0);
        }
    }

    private void asTheyWereBefore() {
        e.says("Promise 37", "as they all were before: n.");
        PastOnce x = counted(0, 5);
        e.due("up by one", x.shift(0, 0, 0, 1, 4), 4);
        isRow("up by one", x, 0, 1, 1, 2, 3, 4);
        x = counted(0, 5);
        e.due("down by one", x.shift(0, 1, 0, 0, 4), 4);
        isRow("down by one", x, 0, 2, 3, 4, 5, 5);
        x = counted(0, 5);
        e.due("up by three", x.shift(0, 0, 0, 3, 2), 2);
        isRow("up by three", x, 0, 1, 2, 3, 1, 2);
        e.due("to where they are", x.shift(0, 0, 0, 0, 5), 5);
        isRow("to where they are", x, 0, 1, 2, 3, 1, 2);
    }

    private void shiftRefused() {
        e.says("Promise 37", "BAD, -11 (either), -12 (no ROWS, or of unlike sorts), -13 (n below 0, too).");
        e.between("shift(shelf, 0, 0, 0, 0)", 0, 5, Edge.BAD, shelf -> counted(0, 1).shift(shelf, 0, 0, 0, 0));
        e.between("shift(0, 0, other, 0, 0)", 0, 5, Edge.BAD, other -> counted(0, 1).shift(0, 0, other, 0, 0));
        PastOnce x = counted(0, 3);
        x.row(1, INTS, 4);
        x.keep(2, 0);
        e.due("nothing there, from", x.shift(5, 0, 0, 0, 1), Edge.NOTHING);
        e.due("nothing there, to", x.shift(0, 0, 5, 0, 1), Edge.NOTHING);
        e.due("nothing there, from a BODY", x.shift(2, 0, 5, 0, 1), Edge.NOTHING);
        e.due("a BODY, from", x.shift(2, 0, 0, 0, 1), Edge.OTHER);
        e.due("a BODY, to", x.shift(0, 0, 2, 0, 1), Edge.OTHER);
        e.due("a BODY, to itself, nor the place", x.shift(2, -1, 2, 0, 1), Edge.OTHER);
        for (int a = 0; a <= 4; a++) {
            for (int b = 0; b <= 4; b++) {
                x.row(3, a, 3);
                x.row(4, b, 3);
                e.due("sort " + a + " to sort " + b, x.shift(3, 0, 4, 0, 3), a == b ? 3 : Edge.OTHER);
                e.due("sort " + a + " to sort " + b + ", no place", x.shift(3, 1, 4, 0, 3), a == b ? Edge.NO_PLACE : Edge.OTHER);
            }
        }
        // Three from the first ROW, four in the other.
        e.between("n, from 0 to 0", 0, 3, Edge.NO_PLACE, n -> x.shift(0, 0, 1, 0, n));
        e.between("n, from 1 to 0", 0, 2, Edge.NO_PLACE, n -> x.shift(0, 1, 1, 0, n));
        e.between("n, from 0 to 2", 0, 2, Edge.NO_PLACE, n -> x.shift(0, 0, 1, 2, n));
        e.between("none, from i", 0, 3, Edge.NO_PLACE, i -> x.shift(0, i, 1, 0, 0));
        e.between("one, from i", 0, 2, Edge.NO_PLACE, i -> x.shift(0, i, 1, 0, 1));
        e.between("none, to j", 0, 4, Edge.NO_PLACE, j -> x.shift(0, 0, 1, j, 0));
        e.between("one, to j", 0, 3, Edge.NO_PLACE, j -> x.shift(0, 0, 1, j, 1));
        e.due("far too many from the last", x.shift(0, 2, 1, 0, Integer.MAX_VALUE), Edge.NO_PLACE);
        e.due("nothing is moved", x.element(0, 2), 3);
    }

    private void taken() {
        e.says("Promise 38", "What a SHELF holds, taken for a BODY of KIND k (0 .. 7), or under it: its KIND.");
        String[] above = {"0", "10", "20", "320", "410", "5320", "60", "760"};
        PastOnce x = Laid.eightBodies();
        for (int kind = 0; kind <= 7; kind++) {
            x.keep(5, kind);
            for (int k = 0; k <= 7; k++) {
                e.due(kind + " taken for " + k, x.taken(5, k), above[kind].indexOf('0' + k) >= 0 ? kind : Edge.OTHER);
            }
        }
        e.between("taken(5, k)", 0, 7, Edge.BAD, k -> x.taken(5, k));
    }

    private void takenRefused() {
        e.says("Promise 38", "BAD, -11, -12.");
        e.between("taken(shelf, 0)", 0, 5, Edge.BAD, shelf -> new PastOnce().taken(shelf, 0));
        e.between("taken(0, k) of nothing", 0, 7, Edge.BAD, k -> new PastOnce().taken(0, k));
        PastOnce x = oneBody();
        for (int k = 0; k <= 7; k++) {
            e.due("nothing is there", x.taken(0, k), Edge.NOTHING);
            for (int sort = 0; sort <= 4; sort++) {
                x.row(1, sort, sort);
                e.due("a ROW of sort " + sort, x.taken(1, k), Edge.OTHER);
            }
        }
        e.due("no such KIND, of a ROW", x.taken(1, 8), Edge.BAD);
    }

    private void count() {
        e.says("Promise 39", "How many: 0 DISHES, 1 SPOONS that are there, 2 bytes on THE TAPE, 3 changes that may be UNDONE, 4 BODIES,"
                + " 5 bodies that ran in the latest act() (all, kept or not). BAD.");
        e.between("count(what)", 0, 5, Edge.BAD, what -> new PastOnce().count(what));
        PastOnce x = new PastOnce();
        for (int n = 1; n <= 9; n++) {
            x.dish(11, 0);
            e.due("DISHES", x.count(0), n);
            e.due("SPOONS", x.count(1), 4 * n);
        }
        x.dish(11, 0);
        e.due("no more than nine", x.count(0), 9);
        x.mend(8, 3, 9);
        e.due("five more SPOONS", x.count(1), 41);
        x.take();
        e.due("one less", x.count(1), 40);
        e.due("one change", x.count(3), 1);
        x.undo();
        e.due("none", x.count(3), 0);
        e.due("four on DISH 8 again", x.count(1), 35);
        x.feed('w');
        x.feed('w');
        e.due("two bytes", x.count(2), 2);
        x.law();
        e.due("none", x.count(2), 0);
        x.body(5);
        e.due("one BODY", x.count(4), 1);
        x.act(0, 3, 1);
        e.due("all that ran", x.count(5), 10);
        x.act(0, 0, 1);
        e.due("in the latest act alone", x.count(5), 1);
    }
}
