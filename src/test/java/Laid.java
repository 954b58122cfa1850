/** Tables for tests, and what the ways take of them. */
final class Laid {
    static final int BEST = 0, SHY = 1, BY_LAW = 2, GREEDY = 3;

    private static final int SPARE_SHELF = 5;

    private Laid() {
    }

    /** A DISH for each text: its WORTH, LESS, SPACE, SPOONS, SORT. */
    static PastOnce line(String... dishes) {
        PastOnce x = new PastOnce();
        for (String numbers : dishes) {
            add(x, numbers);
        }
        return x;
    }

    static int add(PastOnce x, String numbers) {
        String[] v = numbers.split(" ");
        int dish = x.dish(10 * Integer.parseInt(v[0]) + Integer.parseInt(v[2]), Integer.parseInt(v[4]));
        for (int what = 0; what < 5; what++) {
            x.mend(dish, what, Integer.parseInt(v[what]));
        }
        return dish;
    }

    /** The same with another PLATE. */
    static PastOnce on(int plate, String... dishes) {
        PastOnce x = line(dishes);
        x.mend(0, 8, plate);
        return x;
    }

    static PastOnce mended(PastOnce x, int number, int what, int v) {
        x.mend(number, what, v);
        return x;
    }

    static PastOnce withLaw(PastOnce x, String text) {
        Check.tell(x, text);
        return x;
    }

    /** How many spoons of a DISH one guest of a HABIT takes. */
    static int taken(PastOnce x, int habit, int dish) {
        Check.bytes(x, SPARE_SHELF, habit);
        return x.of(dish, 3) - x.left(SPARE_SHELF, dish);
    }

    /** JUDGED: a plate of so many spoons. */
    static int judged(PastOnce x, int... told) {
        Check.bytes(x, SPARE_SHELF, told);
        return x.judge(SPARE_SHELF);
    }

    static int ways(PastOnce x, int... told) {
        Check.bytes(x, SPARE_SHELF, told);
        return x.ways(SPARE_SHELF);
    }

    /** A BODY of each KIND, its number like its KIND. */
    static PastOnce eightBodies() {
        PastOnce x = new PastOnce();
        for (int kind = 0; kind < 8; kind++) {
            x.body(kind);
        }
        return x;
    }
}
