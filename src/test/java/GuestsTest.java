/** Promises 12 to 18: left, after, gone, lay, small, offers, stop. */
public final class GuestsTest {
    private static final Check C = new Check("GuestsTest");

    public static void main(String[] args) {
        left();
        leftRefused();
        after();
        gone();
        lay();
        layLastOrders();
        layByLaw();
        small();
        offers();
        stop();
        C.finish();
    }

    private static PastOnce two() {
        PastOnce x = new PastOnce();
        x.dish(53, 0);
        x.dish(22, 1);
        x.mend(0, 3, 9);
        x.mend(1, 3, 9);
        return x;
    }

    private static void left() {
        PastOnce x = two();
        Check.bytes(x, 0);
        C.due("12: none came", x.left(0, 0), 9);
        Check.bytes(x, 0, 1, 1, 1);
        C.due("12: three shy ones", x.left(0, 0), 6);
        C.due("12: three shy ones, of 1", x.left(0, 1), 6);
        // 20 of room: 6 of 0 (18), 1 of 1 (2).
        Check.bytes(x, 0, 3);
        C.due("12: a greedy one", x.left(0, 0), 3);
        C.due("12: a greedy one, of 1", x.left(0, 1), 8);
        // BEST: 5 + 4 + 3 + 2 + 1 (15), 2 + 1 (4).
        Check.bytes(x, 0, 0);
        C.due("12: by BEST", x.left(0, 0), 4);
        C.due("12: by BEST, of 1", x.left(0, 1), 7);
        Check.tell(x, "t<2");
        Check.bytes(x, 0, 2);
        C.due("12: by THE LAW", x.left(0, 0), 7);
        Check.bytes(x, 0, 4, -1, 99, -128);
        C.due("12: others take none", x.left(0, 0), 9);
        Check.bytes(x, 0, 4, 4, 4, 4, 4, 4, 4, 4, 4, 1, 1, 1);
        C.due("12: ten at most count", x.left(0, 0), 8);
        Check.bytes(x, 0, 1, 1, 1, 1, 1, 1, 1, 1, 1, 1, 1);
        C.due("12: until none is there", x.left(0, 0), 0);
        C.due("12: they stay in thought", x.of(0, 3), 9);
    }

    private static void leftRefused() {
        PastOnce x = two();
        C.due("12: nothing there", x.left(0, 0), -11);
        C.due("12: DISH 2", x.left(0, 2), PastOnce.BAD);
        C.due("12: DISH -1", x.left(0, -1), PastOnce.BAD);
        C.due("12: shelf 6", x.left(6, 0), PastOnce.BAD);
        C.due("12: shelf -1", x.left(-1, 0), PastOnce.BAD);
        x.row(0, 2, 4);
        C.due("12: ints", x.left(0, 0), -12);
        x.body(0);
        x.keep(0, 0);
        C.due("12: a BODY", x.left(0, 0), -12);
        C.due("13: a BODY", x.after(0, 0), PastOnce.VOID);
    }

    private static void after() {
        PastOnce x = two();
        Check.bytes(x, 0);
        C.due("13: none ahead", x.after(0, 0), 15 + 3);
        // The best one leaves 4 of 0 and 7 of 1: 5 + 4 + 3 + 2 (12), 2 + 1 (4).
        C.due("13: again", x.after(0, 1), 18 + 14 + 3);
        Check.bytes(x, 0, 3);
        C.due("13: 3 of 0 are left", x.after(0, 0), 12 + 3);
        C.due("13: what 2", x.after(0, 2), PastOnce.VOID);
        C.due("13: what -1", x.after(0, -1), PastOnce.VOID);
        C.due("13: shelf 6", x.after(6, 0), PastOnce.VOID);
        C.due("13: nothing there", x.after(1, 0), PastOnce.VOID);
        x.row(1, 1, 3);
        C.due("13: shorts", x.after(1, 1), PastOnce.VOID);
    }

    private static void gone() {
        PastOnce x = two();
        x.mend(0, 6, 7);
        x.mend(1, 6, 50);
        C.due("14: one shy", x.gone(11), 57);
        C.due("14: ten shy, nine are there", x.gone(101), 9 * 57);
        C.due("14: one greedy", x.gone(13), 6 * 7 + 50);
        C.due("14: one by BEST", x.gone(10), 5 * 7 + 2 * 50);
        Check.tell(x, "k=0&t<1");
        C.due("14: three by THE LAW", x.gone(32), 21);
        int[] bad = {-1, 0, 3, 9, 14, 19, 104, 110, Integer.MAX_VALUE, Integer.MIN_VALUE};
        for (int nh : bad) {
            C.due("14: gone(" + nh + ")", x.gone(nh), PastOnce.BAD);
        }
        C.due("14: no DISHES", new PastOnce().gone(100), 0);
    }

    private static void lay() {
        PastOnce x = new PastOnce();
        x.dish(59, 0);
        x.dish(59, 1);
        x.dish(59, 2);
        x.mend(0, 6, 90);
        x.mend(1, 6, 10);
        x.mend(2, 6, 10);
        x.mend(0, 3, 1);
        x.mend(1, 3, 1);
        x.mend(2, 3, 1);
        // Room for two: the dear one last; of like ones 1 ahead of 2.
        C.due("15: least", x.lay(13, -1), 20);
        C.due("15: place 0", x.lay(13, 0), 1);
        C.due("15: place 1", x.lay(13, 1), 2);
        C.due("15: place 2", x.lay(13, 2), 0);
        C.due("15: place 3", x.lay(13, 3), PastOnce.BAD);
        C.due("15: place -2", x.lay(13, -2), PastOnce.BAD);
        C.due("15: HABIT 4", x.lay(14, 0), PastOnce.BAD);
        C.due("15: 0 guests", x.lay(3, 0), PastOnce.BAD);
        C.due("15: 11 guests", x.lay(113, 0), PastOnce.BAD);
        C.due("15: all goes by ten", x.lay(103, -1), 110);
        C.due("15: all orders alike", x.lay(103, 0), 0);
        C.due("15: the ORDER stays", x.of(0, 6), 90);
        // By BEST like ones are taken last first: the dear one first.
        C.due("15: by BEST", x.lay(10, -1), 20);
        C.due("15: by BEST, place 0", x.lay(10, 0), 0);
        PastOnce none = new PastOnce();
        C.due("15: no DISHES", none.lay(10, -1), 0);
        C.due("15: no place", none.lay(10, 0), PastOnce.BAD);
        x.dish(11, 0);
        x.dish(11, 0);
        C.due("15: five", x.lay(11, 4) >= 0 ? 1 : 0, 1);
        x.dish(11, 0);
        C.due("15: six", x.lay(13, -1), PastOnce.STATE);
        C.due("15: six, place 5", x.lay(13, 5), PastOnce.STATE);
        C.due("15: BAD ahead of STATE", x.lay(13, 6), PastOnce.BAD);
    }

    // One greedy guest with room for 6: just one of the ORDERS costs least.
    private static void layLastOrders() {
        PastOnce x = new PastOnce();
        x.dish(53, 0);
        x.dish(52, 0);
        x.dish(51, 0);
        x.mend(0, 8, 6);
        x.mend(0, 6, 99);
        x.mend(1, 6, 20);
        x.mend(2, 6, 1);
        x.mend(0, 3, 1);
        x.mend(1, 3, 9);
        x.mend(2, 3, 3);
        C.due("15: 2, 1, 0", x.lay(13, -1), 23);
        C.due("15: 2, 1, 0, place 0", x.lay(13, 0), 2);
        C.due("15: 2, 1, 0, place 1", x.lay(13, 1), 1);
        C.due("15: 2, 1, 0, place 2", x.lay(13, 2), 0);
    }

    // k and n are by the ORDER that is tried: a law that takes at place 0 alone meets the cheap one there.
    private static void layByLaw() {
        PastOnce x = new PastOnce();
        x.dish(51, 0);
        x.dish(51, 0);
        x.mend(0, 6, 90);
        Check.tell(x, "k=0");
        C.due("15: k, as they lie", x.gone(12), 360);
        C.due("15: k", x.lay(12, -1), 40);
        C.due("15: k, place 0", x.lay(12, 0), 1);
        Check.tell(x, "n=0");
        C.due("15: n", x.lay(12, -1), 40);
        C.due("15: n, place 1", x.lay(12, 1), 1);
    }

    private static void small() {
        PastOnce x = new PastOnce();
        C.due("16: no DISHES", x.small(10, 0), 60);
        x.dish(53, 0);
        x.mend(0, 3, 9);
        // A greedy one takes PLATE / 3 spoons at 10.
        C.due("16: none", x.small(13, 0), 2);
        C.due("16: none for 9, too", x.small(13, 9), 2);
        C.due("16: one", x.small(13, 10), 5);
        C.due("16: two by two guests", x.small(23, 20), 5);
        C.due("16: all", x.small(13, 90), 60);
        C.due("16: below all", x.small(13, 89), 26);
        x.dish(51, 0);
        C.due("16: even the least is too great", x.small(13, 9), PastOnce.NOT);
        x.mend(0, 6, 99);
        C.due("16: the least", x.small(13, 10), 1);
        C.due("16: most -1", x.small(13, -1), PastOnce.BAD);
        C.due("16: HABIT 5", x.small(15, 1), PastOnce.BAD);
        C.due("16: 11 guests", x.small(110, 1), PastOnce.BAD);
        C.due("16: -13", x.small(-13, 1), PastOnce.BAD);
        C.due("16: PLATE stays", x.of(0, 8), 20);
        // A greater PLATE may cost less: above 9 the first DISH, which bars the dear one, fits.
        x = new PastOnce();
        x.dish(59, 0);
        x.dish(51, 1);
        x.mend(0, 6, 1);
        x.mend(1, 6, 99);
        x.mend(0, 9, 2);
        C.due("16: 60, though 5 costs more", x.small(13, 4), 60);
        C.due("16: 17, one of the first", x.small(13, 1), 17);
    }

    private static void offers() {
        PastOnce x = new PastOnce();
        C.due("17: the first of 12", x.offers(12, 0, 0), 1);
        C.due("17: the last of 12", x.offers(12, 11, 1), 12);
        C.due("17: 4 by 1, above", x.offers(4, 1, 0), 11);
        C.due("17: 4 by 1, below", x.offers(4, 1, 1), 24);
        // 3 by 12 times (1/3 + .. + 1/11) = 42131/110880.
        C.due("17: 12 by 3, above", x.offers(12, 3, 0), 42131 / gcd(42131, 110880));
        int[][] bad = {{0, 0, 0}, {13, 0, 0}, {4, 4, 0}, {4, -1, 0}, {4, 0, 2}, {4, 0, -1}, {-1, 0, 0}};
        for (int[] b : bad) {
            C.due("17: not so", x.offers(b[0], b[1], b[2]), Long.MIN_VALUE);
        }
    }

    private static long gcd(long a, long b) {
        return b == 0 ? a : gcd(b, a % b);
    }

    private static void stop() {
        int[] due = {0, 0, 0, 1, 1, 2, 2, 2, 3, 3, 3, 4, 4};
        PastOnce x = new PastOnce();
        for (int n = 1; n <= 12; n++) {
            C.due("18: stop(" + n + ")", x.stop(n), due[n]);
        }
        C.due("18: 0", x.stop(0), PastOnce.BAD);
        C.due("18: 13", x.stop(13), PastOnce.BAD);
        C.due("18: -1", x.stop(-1), PastOnce.BAD);
    }
}
