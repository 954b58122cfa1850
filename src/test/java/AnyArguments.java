import java.util.Random;

/** No call throws or fails to end, for any arguments in any state; 512 calls of the dearest kinds stay quick. */
public final class AnyArguments {
    private static final Check C = new Check("AnyArguments");
    private static final int[] EDGES = {Integer.MIN_VALUE, Integer.MIN_VALUE + 1, -2000000000, -128, -14, -5, -3, -2, -1, 0, 1, 2, 3, 4, 5, 6, 7, 8, 9,
        10, 11, 12, 13, 20, 21, 31, 32, 40, 49, 50, 53, 59, 60, 61, 99, 100, 103, 110, 119, 120, 127, 128, 200, 203, 209, 255, 256,
        Integer.MAX_VALUE - 1, Integer.MAX_VALUE};

    public static void main(String[] args) {
        for (int run = 0; run < 3000; run++) {
            any(new Random(run));
        }
        dearest();
        marksComeRound();
        C.finish();
    }

    private static int edge(Random r) {
        return r.nextInt(3) == 0 ? EDGES[r.nextInt(EDGES.length)] : r.nextInt(13) - 2;
    }

    private static void any(Random r) {
        PastOnce x = new PastOnce();
        StringBuilder calls = new StringBuilder();
        try {
            for (int i = 0; i < 512; i++) {
                int pick = r.nextInt(38);
                int a = edge(r);
                int b = edge(r);
                int c = edge(r);
                calls.append(pick).append(' ').append(a).append(' ').append(b).append(' ').append(c).append("; ");
                long ignored = pick < 19 ? first(x, pick, a, b, c) : second(x, pick, a, b, c, edge(r), edge(r));
            }
            C.due("any", 0, 0);
        } catch (RuntimeException | StackOverflowError e) {
            C.holds(e + " after " + calls, false);
        }
    }

    private static long first(PastOnce x, int pick, int a, int b, int c) {
        switch (pick) {
            case 0: return x.dish(a, b);
            case 1: return x.dishes(a, b, c);
            case 2: return x.mend(a, b, c);
            case 3: return x.of(a, b);
            case 4: return x.feed("wslknt01()!-+*/%<=>|&?;".charAt(Math.floorMod(a, 23)));
            case 5: return b > 5 ? x.law() : x.feed(a);
            case 6: return x.best(a);
            case 7: return x.sight(a, b);
            case 8: return x.byLaw(a);
            case 9: return x.mean(a);
            case 10: return x.left(a, b);
            case 11: return x.after(a, b);
            case 12: return x.gone(a);
            case 13: return x.lay(a, b);
            case 14: return x.small(a, b);
            case 15: return x.offers(a, b, c);
            case 16: return x.stop(a);
            case 17: return x.judge(a);
            default: return x.ways(a);
        }
    }

    private static long second(PastOnce x, int pick, int a, int b, int c, int d, int e) {
        switch (pick) {
            case 19: return x.drawn(a, b, c);
            case 20: return x.take();
            case 21: return x.goOn();
            case 22: return x.end();
            case 23: return x.led(a);
            case 24: return x.image();
            case 25: return x.back();
            case 26: return x.undo();
            case 27: return x.redo();
            case 28: return x.body(a);
            case 29: return x.act(a, b, c);
            case 30: return x.trace(a);
            case 31: return x.keep(a, b);
            case 32: return x.row(a, b, c);
            case 33: return x.put(a, b, (long) c * d);
            case 34: return x.element(a, b);
            case 35: return x.shift(a, b, c, d, e);
            case 36: return x.taken(a, b);
            default: return x.count(a);
        }
    }

    private static PastOnce heavy(int dishes) {
        PastOnce x = new PastOnce();
        for (int i = 0; i < dishes; i++) {
            x.dish(201 + i % 3, i % 5);
            x.mend(i, 1, i % 2);
            x.mend(i, 3, 9);
            x.mend(i, 5, i % 2);
            x.mend(i, 7, 1 + i);
        }
        int[] bars = {2, 4, 8, 16, 0};
        for (int sort = 0; sort < 5; sort++) {
            x.mend(sort, 9, bars[sort]);
        }
        x.mend(0, 8, 60);
        return x;
    }

    private static void dearest() {
        PastOnce nine = heavy(9);
        PastOnce five = heavy(5);
        long begin = System.nanoTime();
        for (int i = 0; i < 200; i++) {
            nine.small(100, i);
            five.lay(100, -1);
            nine.drawn(i, 200, 0);
            nine.mean(0);
        }
        long seconds = (System.nanoTime() - begin) / 1000000000L;
        C.holds("800 of the dearest calls took " + seconds + " seconds", seconds < 60);
    }

    // The marks of what was worked out come round when 512 calls send guests along the line as often as they can: what
    // was worked out first, on a greater PLATE, is not taken for new then.
    private static void marksComeRound() {
        PastOnce x = new PastOnce();
        x.dish(59, 0);
        x.mend(0, 6, 0);
        for (int i = 1; i < 5; i++) {
            x.dish(201, 0);
            x.mend(i, 3, 9);
            x.mend(i, 6, 0);
        }
        x.mend(0, 8, 9);
        // There are marks from 1 on to 2 to the 19th less 1: this one is the first, and so is that of the last call.
        C.due("of the great ones", x.best(0), 0);
        x.mend(0, 8, 1);
        int marks = (1 << 19) - 2;
        boolean free = true;
        // Ten guests, or nine, by each of 120 ORDERS.
        for (; marks >= 1200; marks -= 1200) {
            free &= x.lay(100, -1) == 0;
        }
        for (; marks >= 1080; marks -= 1080) {
            free &= x.lay(90, -1) == 0;
        }
        for (; marks > 0; marks--) {
            free &= x.best(-2) == 0;
        }
        C.holds("what costs nothing", free);
        x.mend(0, 8, 9);
        for (int i = 1; i < 5; i++) {
            x.mend(i, 0, 0);
        }
        C.due("the great ones are worth nothing", x.best(0), 1);
    }
}
