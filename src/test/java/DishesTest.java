/** Promises 1 to 7: a new object, dish, dishes, mend, of, feed, law. */
public final class DishesTest {
    private static final Check C = new Check("DishesTest");

    public static void main(String[] args) {
        newObject();
        dish();
        dishes();
        dishesRefused();
        mend();
        mendRefused();
        of();
        feed();
        lawHolds();
        lawFaults();
        lawValues();
        C.finish();
    }

    private static void newObject() {
        PastOnce x = new PastOnce();
        for (int what = 0; what <= 5; what++) {
            C.due("1: count(" + what + ")", x.count(what), 0);
        }
        C.due("1: of PLATE", x.of(0, 8), 20);
        for (int sort = 0; sort < 5; sort++) {
            C.due("1: of BARS", x.of(sort, 9), 0);
        }
        for (int shelf = 0; shelf < 6; shelf++) {
            C.due("1: an empty shelf", x.taken(shelf, 0), -11);
        }
        C.due("1: no image", x.back(), PastOnce.STATE);
        C.due("1: none to undo", x.undo(), PastOnce.STATE);
    }

    private static void dish() {
        PastOnce x = new PastOnce();
        C.due("2: least", x.dish(1, 0), 0);
        C.due("2: most", x.dish(209, 4), 1);
        int[] first = {0, 1, 1, 4, 0, 0, 10, 12};
        int[] second = {20, 1, 9, 4, 4, 0, 10, 12};
        for (int what = 0; what < 8; what++) {
            C.due("2: of(0, " + what + ")", x.of(0, what), first[what]);
            C.due("2: of(1, " + what + ")", x.of(1, what), second[what]);
        }
        int[] bad = {0, 10, 200, 210, 211, -1, -9, Integer.MIN_VALUE, Integer.MAX_VALUE};
        for (int ws : bad) {
            C.due("2: dish(" + ws + ", 0)", x.dish(ws, 0), PastOnce.BAD);
        }
        C.due("2: sort 5", x.dish(53, 5), PastOnce.BAD);
        C.due("2: sort -1", x.dish(53, -1), PastOnce.BAD);
        C.due("2: none came", x.count(0), 2);
        for (int i = 2; i < 9; i++) {
            C.due("2: number", x.dish(53, 0), i);
        }
        C.due("2: full", x.dish(53, 0), PastOnce.FULL);
        C.due("2: BAD ahead of FULL", x.dish(53, 5), PastOnce.BAD);
        C.due("2: still nine", x.count(0), 9);
        C.due("2: no change", x.count(3), 0);
    }

    private static void dishes() {
        PastOnce x = new PastOnce();
        C.due("3: missing", x.dishes(0, 0, 1), 0);
        Check.bytes(x, 0, 7, 20, 9, 9, 4, 0, 1, 0, 0, 8);
        C.due("3: from place 1", x.dishes(0, 1, 2), 2);
        C.due("3: WORTH", x.of(0, 0), 20);
        C.due("3: SPACE", x.of(0, 2), 9);
        C.due("3: SPOONS", x.of(0, 3), 9);
        C.due("3: SORT", x.of(0, 4), 4);
        C.due("3: no SPOONS", x.of(1, 3), 0);
        C.due("3: LESS as at first", x.of(1, 1), 1);
        C.due("3: DEAR as at first", x.of(1, 6), 10);
        C.due("3: ends within a four", x.dishes(0, 7, 1), 0);
        C.due("3: ends there", x.dishes(0, 10, 1), 0);
        Check.bytes(x, 3, 5, 3, 4, 0, 6, 3, 4, 0);
        C.due("3: no more than told", x.dishes(3, 0, 1), 1);
        C.due("3: just that one", x.count(0), 3);
        C.due("3: the last four of a ROW", x.dishes(3, 4, 9), 1);
        C.due("3: it came", x.of(3, 0), 6);
        C.due("3: i below 0", x.dishes(0, -1, 1), 0);
        C.due("3: far behind", x.dishes(0, Integer.MAX_VALUE, 9), 0);
        C.due("3: i far below 0", x.dishes(0, Integer.MIN_VALUE, 9), 0);
        Check.bytes(x, 1, 5, 3, 4, 0, 5, 10, 4, 0, 5, 3, 4, 0);
        C.due("3: the second is not as it may be", x.dishes(1, 0, 3), 1);
        int[][] odd = {{21, 3, 4, 0}, {-1, 3, 4, 0}, {5, 0, 4, 0}, {5, 10, 4, 0}, {5, 3, 10, 0}, {5, 3, -1, 0}, {5, 3, 4, 5}, {5, 3, 4, -1}};
        for (int[] four : odd) {
            Check.bytes(x, 1, four);
            C.due("3: odd four", x.dishes(1, 0, 1), 0);
        }
        int[] many = new int[40];
        for (int i = 0; i < 40; i += 4) {
            many[i] = i / 4;
            many[i + 1] = 1;
        }
        Check.bytes(x, 2, many);
        C.due("3: those ahead of FULL", x.dishes(2, 0, 9), 4);
        C.due("3: the last that came", x.of(8, 0), 3);
        C.due("3: FULL", x.dishes(2, 0, 9), 0);
        C.due("3: no change", x.count(3), 0);
    }

    private static void dishesRefused() {
        PastOnce x = new PastOnce();
        x.body(0);
        x.keep(0, 0);
        C.due("3: a BODY", x.dishes(0, 0, 1), -12);
        for (int sort = 1; sort <= 4; sort++) {
            x.row(1, sort, 8);
            C.due("3: a ROW of others", x.dishes(1, 0, 1), -12);
            C.due("3: a ROW of others, i below 0", x.dishes(1, -1, 1), -12);
        }
        C.due("3: n 0", x.dishes(1, 0, 0), PastOnce.BAD);
        C.due("3: n 10", x.dishes(1, 0, 10), PastOnce.BAD);
        C.due("3: shelf 6", x.dishes(6, 0, 1), PastOnce.BAD);
        C.due("3: shelf -1", x.dishes(-1, 0, 1), PastOnce.BAD);
        C.due("3: none", x.count(0), 0);
    }

    private static void mend() {
        PastOnce x = new PastOnce();
        x.dish(53, 0);
        int[] was = {5, 1, 3, 4, 0, 0, 10, 12, 20, 0};
        int[] least = {0, 0, 1, 0, 0, 0, 0, 0, 1, 0};
        int[] most = {20, 9, 9, 9, 4, 1, 99, 12, 60, 31};
        for (int what = 0; what <= 9; what++) {
            C.due("4: to the least", x.mend(0, what, least[what]), was[what]);
            C.due("4: to the most", x.mend(0, what, most[what]), least[what]);
            C.due("4: it is so", x.of(0, what), most[what]);
            C.due("4: below", x.mend(0, what, least[what] - 1), PastOnce.BAD);
            C.due("4: above", x.mend(0, what, most[what] + 1), PastOnce.BAD);
            C.due("4: stays", x.of(0, what), most[what]);
        }
        C.due("4: the other SORTS stay", x.of(1, 9), 0);
        C.due("4: SORT 4", x.mend(4, 9, 31), 0);
    }

    private static void mendRefused() {
        PastOnce x = new PastOnce();
        C.due("4: no DISH", x.mend(0, 0, 5), PastOnce.BAD);
        x.dish(53, 0);
        C.due("4: no such DISH", x.mend(1, 0, 5), PastOnce.BAD);
        C.due("4: DISH -1", x.mend(-1, 0, 5), PastOnce.BAD);
        C.due("4: PLATE 1", x.mend(1, 8, 5), PastOnce.BAD);
        C.due("4: PLATE -1", x.mend(-1, 8, 5), PastOnce.BAD);
        C.due("4: SORT 5", x.mend(5, 9, 5), PastOnce.BAD);
        C.due("4: SORT -1", x.mend(-1, 9, 5), PastOnce.BAD);
        C.due("4: what 10", x.mend(0, 10, 5), PastOnce.BAD);
        C.due("4: what -1", x.mend(0, -1, 5), PastOnce.BAD);
        C.due("4: nothing changed", x.count(3), 0);
    }

    private static void of() {
        PastOnce x = new PastOnce();
        C.due("5: no DISH", x.of(0, 0), PastOnce.BAD);
        x.dish(74, 2);
        int[] all = {7, 1, 4, 4, 2, 0, 10, 12, 20, 0};
        for (int what = 0; what <= 9; what++) {
            C.due("5: of(0, " + what + ")", x.of(0, what), all[what]);
            C.due("5: of(-1, " + what + ")", x.of(-1, what), PastOnce.BAD);
            C.due("5: of(1, " + what + ")", x.of(1, what), what == 9 ? 0 : PastOnce.BAD);
        }
        C.due("5: what 10", x.of(0, 10), PastOnce.BAD);
        C.due("5: what -1", x.of(0, -1), PastOnce.BAD);
        C.due("5: far", x.of(Integer.MAX_VALUE, 9), PastOnce.BAD);
    }

    private static void feed() {
        PastOnce x = new PastOnce();
        C.due("6: 256", x.feed(256), PastOnce.BAD);
        C.due("6: -1", x.feed(-1), PastOnce.BAD);
        C.due("6: 0", x.feed(0), 1);
        C.due("6: 255", x.feed(255), 2);
        for (int n = 3; n <= 120; n++) {
            C.due("6: how many", x.feed('w'), n);
        }
        C.due("6: full", x.feed('w'), PastOnce.FULL);
        C.due("6: BAD ahead of FULL", x.feed(256), PastOnce.BAD);
        C.due("6: on the tape", x.count(2), 120);
        C.due("6: a fault", x.law(), -100);
        C.due("6: empty then", x.count(2), 0);
    }

    private static void lawHolds() {
        String[] good = {"w", "0", "9999", "w?s", "w;s;l;k;n;t", "w?s;l?k;n", "w|s|l", "w&s&l", "w<s", "w=s", "w>s", "w+s-l", "w*s/l%k",
            "!w", "-w", "--w", "!!!!!!w", "((((((w))))))", "-(-(-(w)))", "(w<s)<l", "w<s&s<l|l=k", "(w)+(s)", "!(w)+!(s)", "0000",
            "w--s", "w-!s", "!w<-s", "!!!!!!w+!!!!!!s", "((((((w)))+((s))+!l)))"};
        for (String text : good) {
            PastOnce x = new PastOnce();
            C.due("7: " + text, Check.tell(x, text), 1);
            C.due("7: empty then", x.count(2), 0);
        }
        StringBuilder longest = new StringBuilder("w");
        while (longest.length() < 119) {
            longest.append(";w");
        }
        C.due("7: sixty LINES", Check.tell(new PastOnce(), longest.toString()), 1);
        StringBuilder whole = new StringBuilder("10");
        while (whole.length() < 120) {
            whole.append("+w");
        }
        C.due("7: all 120", Check.tell(new PastOnce(), whole.toString()), 1);
    }

    private static void lawFaults() {
        Object[][] faults = {{"", 0}, {"w;", 2}, {";", 0}, {"w;;w", 2}, {"w?", 2}, {"w?s?l", 3}, {"?w", 0}, {"w<s<l", 3}, {"w=s>l", 3},
            {"12345", 4}, {"w w", 1}, {" w", 0}, {"x", 0}, {"ww", 1}, {"w3", 1}, {"3w", 1}, {"()", 1}, {"(w", 2}, {"w)", 1}, {"(w?s)", 2},
            {"(w;s)", 2}, {"!!!!!!!w", 6}, {"(((((((w)))))))", 6}, {"-!-!(((", 6}, {"!!!!!!-w", 6}, {"w+", 2}, {"w++s", 2}, {"w*+s", 2},
            {"w!s", 1}, {"w(s)", 1}, {"+w", 0}, {"w|", 2}, {"w||s", 2}, {"w&&s", 2}, {"w<=s", 2}, {"(w))", 3}, {"W", 0}, {"w\u00e9", 1},
            {"!", 1}, {"(w<s)<l<k", 7}, {"w-", 2}, {"!!!!!!(", 6}, {"(!(!(!w)))+(((!!!!w", 17}};
        for (Object[] row : faults) {
            PastOnce x = new PastOnce();
            C.due("7: " + row[0], Check.tell(x, (String) row[0]), -100 - (Integer) row[1]);
            C.due("7: empty then", x.count(2), 0);
        }
        PastOnce x = new PastOnce();
        x.dish(53, 0);
        Check.tell(x, "t<1");
        Check.tell(x, "t<2;");
        C.due("7: a fault leaves THE LAW", x.byLaw(0), 1);
        Check.tell(x, "");
        C.due("7: so does no text", x.byLaw(0), 1);
        StringBuilder open = new StringBuilder();
        while (open.length() < 120) {
            open.append("w+");
        }
        C.due("7: 120 bytes end too early", Check.tell(x, open.toString()), -220);
    }

    // Of one DISH with 9 spoons as many are taken as the law is not 0 for, by t.
    private static void lawValues() {
        Object[][] values = {{"t<3", 3}, {"t=0", 1}, {"1>t", 1}, {"t<2|t=2", 3}, {"t<5&t<4", 4}, {"!t", 1}, {"3-t", 3}, {"t-3", 3},
            {"t*2<5", 3}, {"t/2=0", 2}, {"5/0", 0}, {"1+5/0", 9}, {"5%0", 0}, {"-7/2=-3", 9}, {"-7%3=-1", 9}, {"2+3*4=14", 9}, {"(2+3)*4=20", 9},
            {"7-3-2=2", 9}, {"100/5/2=10", 9}, {"t>2?0;1", 3}, {"t<2?1;t<4?1", 4}, {"t<2?0;1", 0}, {"0?1", 0}, {"0?1;0?1", 0}, {"0;1", 0},
            {"!0=1", 9}, {"!5=0", 9}, {"--3=3", 9}, {"-!0=-1", 9}, {"(5|0)=1", 9}, {"(5&3)=1", 9}, {"(0|0)=0", 9},
            {"9999*9999*99>0", 9}, {"9999*9999*30<0", 9}, {"1|5/0", 9}, {"n", 0}, {"k", 0},
            {"k=0&n=0", 9}, {"w=9-t", 9}, {"s=2", 9}, {"l=20-2*t", 9}, {"w-5", 4}};
        for (Object[] row : values) {
            PastOnce x = new PastOnce();
            x.dish(92, 0);
            x.mend(0, 3, 9);
            String text = (String) row[0];
            C.due("7: " + text, Check.tell(x, text), 1);
            C.due("7: by " + text, x.byLaw(0), (Integer) row[1]);
        }
    }
}
