import java.util.Random;

/** Runs by draws: every answer of the class is held against the slow one's. */
public final class AgainstSlow {
    private static final Check CHECK = new Check("AgainstSlow");
    private static final String[] LAWS = {"w>0", "w>2&l>5", "t<2", "k=1?t<1;n>1?w>3;1", "1", "0", "l/s>t", "w*2-s>3|t=0",
        "(w>4)&!(k%2)", "-w<-3", "!t", "w%3", "n?0;1", "w/(t-1)", "l-s>n*2", "9999*9999*9999>0", "k", "s=4"};
    private static final String LETTERS = "wslknt0123456789()()!!--+*/%<=>|&?;;wwtt";

    public static void main(String[] args) {
        for (int run = 0; run < 8000 && CHECK.isClean(); run++) {
            new AgainstSlow(run).go();
        }
        PastOnce x = null;
        Slow y = null;
        for (int run = 0; run < 300000 && CHECK.isClean(); run++) {
            // An object is used for 512 calls at most: three laws and what is got by them.
            if (run % 3 == 0) {
                x = new PastOnce();
                y = new Slow();
                for (int i = 0; i < 4; i++) {
                    x.dish(35 + 41 * i, i);
                    y.dish(35 + 41 * i, i);
                }
            }
            tellLaw(new Random(run), x, y);
        }
        CHECK.finish();
    }

    private final int run;
    private final Random random;
    private final PastOnce x = new PastOnce();
    private final Slow y = new Slow();
    private final StringBuilder calls = new StringBuilder();
    private int asked = 0;

    private AgainstSlow(int run) {
        this.run = run;
        this.random = new Random(run * 7919L + 1);
    }

    private void due(String call, long got, long want) {
        asked++;
        calls.append(call).append("; ");
        if (got != want) {
            System.out.println("run " + run + ": " + calls);
        }
        CHECK.due("run " + run + ": " + call, got, want);
    }

    private void go() {
        int dishes = random.nextInt(5) + (random.nextInt(4) == 0 ? 4 : 1);
        for (int i = 0; i < dishes; i++) {
            dish(random.nextInt(21) * 10 + 1 + random.nextInt(9), random.nextInt(5));
        }
        if (random.nextBoolean()) {
            for (int i = 0; i < dishes; i++) {
                mend(i, 3, random.nextInt(4));
                mend(i, 5, random.nextInt(2));
            }
        }
        // No more than the 512 calls that an object is used for, with room for the bytes of some laws.
        int n = 20 + random.nextInt(130);
        for (int c = 0; c < n && asked < 380 && CHECK.isClean(); c++) {
            call();
        }
    }

    private int among(int from, int to) {
        // Now and then a number just outside of what is allowed.
        int r = random.nextInt(40);
        if (r == 0) {
            return from - 1;
        }
        if (r == 1) {
            return to + 1;
        }
        return from + random.nextInt(to - from + 1);
    }

    private int anyDish() {
        return among(-1, Math.max(0, y.dishes.size() - 1));
    }

    private long allWays() {
        long all = 1;
        for (int[] d : y.dishes) {
            all *= d[3] + 1;
        }
        return all;
    }

    private void dish(int ws, int sort) {
        due("dish(" + ws + ", " + sort + ")", x.dish(ws, sort), y.dish(ws, sort));
    }

    private void mend(int number, int what, int v) {
        due("mend(" + number + ", " + what + ", " + v + ")", x.mend(number, what, v), y.mend(number, what, v));
    }

    private void call() {
        int pick = random.nextInt(100);
        if (pick < 14) {
            change();
        } else if (pick < 18) {
            due("undo()", x.undo(), y.undo());
        } else if (pick < 21) {
            due("redo()", x.redo(), y.redo());
        } else if (pick < 38) {
            deed();
        } else if (pick < 62) {
            think();
        } else if (pick < 75) {
            host();
        } else if (pick < 88) {
            shelf();
        } else if (pick < 94) {
            body();
        } else {
            look();
        }
    }

    private void change() {
        int what = random.nextInt(11);
        int[] most = {20, 9, 9, 9, 4, 1, 99, 12, 60, 31, 5};
        int number = what == 8 ? among(0, 0) : what == 9 ? among(0, 4) : Math.max(0, anyDish());
        int v = among(what == 2 || what == 8 ? 1 : 0, what == 8 && random.nextInt(4) > 0 ? 25 : most[what]);
        if (what == 3 && random.nextInt(3) > 0) {
            v = random.nextInt(4);
        }
        if (what == 9 && random.nextInt(3) > 0) {
            v = 1 << random.nextInt(5);
        }
        mend(number, what, v);
        if (random.nextInt(12) == 0) {
            String law = LAWS[random.nextInt(LAWS.length)];
            due("law " + law, Check.tell(x, law), tellSlow(y, law));
        }
        if (random.nextInt(40) == 0) {
            dish(among(0, 209), among(0, 4));
        }
        if (random.nextInt(20) == 0) {
            int letter = among(0, 255);
            due("feed(" + letter + ")", x.feed(letter), y.feed(letter));
        }
    }

    private static int tellSlow(Slow y, String law) {
        for (int i = 0; i < law.length(); i++) {
            y.feed(law.charAt(i));
        }
        return y.law();
    }

    private void deed() {
        switch (random.nextInt(14)) {
            case 0: due("end()", x.end(), y.end()); break;
            case 1: due("image()", x.image(), y.image()); break;
            case 2: due("back()", x.back(), y.back()); break;
            case 3: case 4: case 5: case 6: due("goOn()", x.goOn(), y.goOn()); break;
            default: due("take()", x.take(), y.take()); break;
        }
        int what = among(0, 5);
        due("led(" + what + ")", x.led(what), y.led(what));
    }

    private void think() {
        if (allWays() > 20000) {
            return;
        }
        int d = anyDish();
        int s = among(0, 8);
        switch (random.nextInt(6)) {
            case 0: d--; due("best(" + d + ")", x.best(d), y.best(d)); break;
            case 1: due("sight(" + s + ", " + d + ")", x.sight(s, d), y.sight(s, d)); break;
            case 2: due("byLaw(" + d + ")", x.byLaw(d), y.byLaw(d)); break;
            case 3:
                if (allWays() <= 1500 && y.dishes.size() <= 6) {
                    int part = among(0, 4);
                    due("mean(" + part + ")", x.mean(part), y.mean(part));
                }
                break;
            case 4:
                int seed = random.nextInt();
                int nw = random.nextInt(5) * 10 + among(0, 3);
                int what = among(0, 1);
                due("drawn(" + seed + ", " + nw + ", " + what + ")", x.drawn(seed, nw, what), y.drawn(seed, nw, what));
                break;
            default: told(); break;
        }
    }

    private void told() {
        int shelf = among(0, 1);
        int length = random.nextInt(12);
        due("row", x.row(shelf, 0, length), y.row(shelf, 0, length));
        Slow.Taken way = y.go(y.line(), random.nextInt(4), y.plate);
        for (int i = 0; i < length; i++) {
            int v = i < way.counts().length ? way.counts()[i] : random.nextInt(3);
            v += random.nextInt(12) == 0 ? random.nextInt(3) - 1 : 0;
            due("put(" + shelf + ", " + i + ", " + v + ")", x.put(shelf, i, v), y.put(shelf, i, v));
        }
        due("judge(" + shelf + ")", x.judge(shelf), y.judge(shelf));
        due("ways(" + shelf + ")", x.ways(shelf), y.ways(shelf));
    }

    private void host() {
        int nh = random.nextInt(5) * 10 + 10 + among(0, 3);
        boolean cheap = nh % 10 != 0;
        switch (random.nextInt(4)) {
            case 0:
                queue();
                break;
            case 1:
                if (cheap || allWays() < 5000) {
                    due("gone(" + nh + ")", x.gone(nh), y.gone(nh));
                }
                break;
            case 2:
                int place = anyDish();
                if (cheap && y.dishes.size() < 5 || allWays() < 200) {
                    due("lay(" + nh + ", " + place + ")", x.lay(nh, place), y.lay(nh, place));
                }
                break;
            default:
                int most = random.nextInt(8) == 0 ? -1 : random.nextInt(500);
                if (cheap || allWays() < 200) {
                    due("small(" + nh + ", " + most + ")", x.small(nh, most), y.small(nh, most));
                }
                break;
        }
    }

    private void queue() {
        if (allWays() > 3000) {
            return;
        }
        int shelf = among(0, 2);
        if (random.nextInt(3) > 0) {
            int length = random.nextInt(13);
            due("row", x.row(shelf, 0, length), y.row(shelf, 0, length));
            for (int i = 0; i < length; i++) {
                int v = random.nextInt(6) - 1;
                due("put(" + shelf + ", " + i + ", " + v + ")", x.put(shelf, i, v), y.put(shelf, i, v));
            }
        }
        int d = anyDish();
        due("left(" + shelf + ", " + d + ")", x.left(shelf, d), y.left(shelf, d));
        int what = among(0, 1);
        due("after(" + shelf + ", " + what + ")", x.after(shelf, what), y.after(shelf, what));
    }

    private void shelf() {
        int a = among(0, 5);
        int b = among(0, 5);
        int i = among(0, 12);
        switch (random.nextInt(7)) {
            case 0:
                int sort = among(0, 4);
                int n = random.nextInt(9) == 0 ? random.nextInt(70) - 5 : random.nextInt(14);
                due("row(" + a + ", " + sort + ", " + n + ")", x.row(a, sort, n), y.row(a, sort, n));
                break;
            case 1:
                long v = random.nextBoolean() ? random.nextLong() : random.nextInt(12);
                due("put(" + a + ", " + i + ", " + v + ")", x.put(a, i, v), y.put(a, i, v));
                break;
            case 2:
                due("element(" + a + ", " + i + ")", x.element(a, i), y.element(a, i));
                break;
            case 3:
                int j = among(0, 12);
                int m = among(0, 7);
                due("shift(" + a + ", " + i + ", " + b + ", " + j + ", " + m + ")", x.shift(a, i, b, j, m), y.shift(a, i, b, j, m));
                break;
            case 4:
                int k = among(0, 7);
                due("taken(" + a + ", " + k + ")", x.taken(a, k), y.taken(a, k));
                break;
            case 5:
                int body = among(-1, y.kinds.size());
                due("keep(" + a + ", " + body + ")", x.keep(a, body), y.keep(a, body));
                break;
            default:
                int many = among(1, 9);
                due("dishes(" + a + ", " + i + ", " + many + ")", x.dishes(a, i, many), y.dishes(a, i, many));
                break;
        }
    }

    private void body() {
        int kind = among(0, 7);
        due("body(" + kind + ")", x.body(kind), y.body(kind));
        int b = among(0, y.kinds.size() - 1 < 0 ? 0 : y.kinds.size() - 1);
        int act = among(0, 3);
        int v = random.nextBoolean() ? random.nextInt() : random.nextInt(20);
        due("act(" + b + ", " + act + ", " + v + ")", x.act(b, act, v), y.act(b, act, v));
        for (int i = -1; i < 26; i++) {
            due("trace(" + i + ")", x.trace(i), y.trace(i));
        }
    }

    private void look() {
        for (int what = -1; what <= 6; what++) {
            due("count(" + what + ")", x.count(what), y.count(what));
        }
        int what = among(0, 9);
        for (int number = -1; number < 10; number++) {
            due("of(" + number + ", " + what + ")", x.of(number, what), y.of(number, what));
        }
    }

    /** Texts by draws: most of them have a fault somewhere; the law that stands is tried on a short line. */
    private static void tellLaw(Random random, PastOnce x, Slow y) {
        StringBuilder text = new StringBuilder();
        int length = random.nextInt(random.nextInt(20) == 0 ? 121 : 14);
        while (text.length() < length) {
            text.append(LETTERS.charAt(random.nextInt(LETTERS.length())));
            // A fault ahead makes the rest idle: mostly another byte is tried there.
            int fault = SlowLaw.fault(text.toString());
            if (fault >= 0 && fault < text.length() && random.nextInt(30) > 0) {
                text.setLength(text.length() - 1);
                length -= random.nextInt(8) == 0 ? 1 : 0;
            }
        }
        String law = text.toString();
        CHECK.due("law " + law, Check.tell(x, law), tellSlow(y, law));
        for (int d = -1; d < 4; d++) {
            CHECK.due("law " + law + ", byLaw(" + d + ")", x.byLaw(d), y.byLaw(d));
        }
    }
}
