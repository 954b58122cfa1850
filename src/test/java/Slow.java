import java.math.BigInteger;
import java.util.ArrayList;
import java.util.HashMap;
import java.util.List;
import java.util.Map;

/**
 * The document once more, as plainly as it can be said and as slowly: every way is tried, spoon by spoon, with what
 * lies on the plate as a list. Tests hold the class against it.
 */
final class Slow {
    static final int BAD = -1, NOT = -2, FULL = -3, STATE = -5, VOID = -2000000000;
    private static final int[][] BOUNDS = {{0, 20}, {0, 9}, {1, 9}, {0, 9}, {0, 4}, {0, 1}, {0, 99}, {0, 12}, {1, 60}, {0, 31}};

    /** A spoon on a plate: of which place of the line, of which SORT, whether it RUNS, its room and worth. */
    record Spoon(int place, int sort, boolean runs, int room, int worth) {
    }

    record Change(int number, int what, int was, int is) {
    }

    record Picture(int at, List<Spoon> plate, int[] spoons, int goes, int goesWorth) {
    }

    /** What a way takes of each place, and what that is worth. */
    record Taken(int[] counts, int worth, int room) {
        int spoons() {
            int all = 0;
            for (int c : counts) {
                all += c;
            }
            return all;
        }
    }

    final List<int[]> dishes = new ArrayList<>();
    int plate = 20;
    final int[] bars = new int[5];
    StringBuilder tape = new StringBuilder();
    String law = null;
    List<Change> changes = new ArrayList<>();
    List<Change> undone = new ArrayList<>();
    int at = 0;
    List<Spoon> mine = new ArrayList<>();
    int goes = 0;
    int goesWorth = 0;
    Picture picture = null;
    final List<Integer> kinds = new ArrayList<>();
    final List<Integer> trace = new ArrayList<>();
    final Object[] shelves = new Object[6];

    // ---- dishes

    int dish(int ws, int sort) {
        int worth = Math.floorDiv(ws, 10);
        int space = Math.floorMod(ws, 10);
        if (!fits(0, worth) || !fits(2, space) || !fits(4, sort)) {
            return BAD;
        }
        if (dishes.size() == 9) {
            return FULL;
        }
        dishes.add(new int[] {worth, 1, space, 4, sort, 0, 10, 12});
        return dishes.size() - 1;
    }

    static boolean fits(int what, int v) {
        return v >= BOUNDS[what][0] && v <= BOUNDS[what][1];
    }

    int dishes(int shelf, int i, int n) {
        if (noShelf(shelf) || n < 1 || n > 9) {
            return BAD;
        }
        if (shelves[shelf] == null) {
            return 0;
        }
        if (!(shelves[shelf] instanceof byte[] row)) {
            return -12;
        }
        int came = 0;
        for (long p = i; came < n && p >= 0 && p + 3 < row.length; p += 4) {
            int q = (int) p;
            if (!fits(0, row[q]) || !fits(2, row[q + 1]) || !fits(3, row[q + 2]) || !fits(4, row[q + 3]) || dishes.size() == 9) {
                break;
            }
            dishes.add(new int[] {row[q], 1, row[q + 1], row[q + 2], row[q + 3], 0, 10, 12});
            came++;
        }
        return came;
    }

    private boolean known(int number, int what) {
        if (what < 0 || what > 9 || number < 0) {
            return false;
        }
        int many = what == 8 ? 1 : what == 9 ? 5 : dishes.size();
        return number < many;
    }

    int of(int number, int what) {
        if (!known(number, what)) {
            return BAD;
        }
        return what == 8 ? plate : what == 9 ? bars[number] : dishes.get(number)[what];
    }

    private void set(int number, int what, int v) {
        if (what == 8) {
            plate = v;
        } else if (what == 9) {
            bars[number] = v;
        } else {
            dishes.get(number)[what] = v;
        }
    }

    int mend(int number, int what, int v) {
        if (!known(number, what) || !fits(what, v)) {
            return BAD;
        }
        int was = of(number, what);
        if (was != v) {
            set(number, what, v);
            undone.clear();
            changes.add(new Change(number, what, was, v));
            if (changes.size() > 40) {
                changes.remove(0);
            }
        }
        return was;
    }

    int undo() {
        if (changes.isEmpty()) {
            return STATE;
        }
        Change c = changes.remove(changes.size() - 1);
        set(c.number, c.what, c.was);
        undone.add(c);
        return changes.size();
    }

    int redo() {
        if (undone.isEmpty()) {
            return STATE;
        }
        Change c = undone.remove(undone.size() - 1);
        set(c.number, c.what, c.is);
        changes.add(c);
        return undone.size();
    }

    int feed(int letter) {
        if (letter < 0 || letter > 255) {
            return BAD;
        }
        if (tape.length() == 120) {
            return FULL;
        }
        tape.append((char) letter);
        return tape.length();
    }

    int law() {
        String text = tape.toString();
        tape = new StringBuilder();
        int fault = SlowLaw.fault(text);
        if (fault >= 0) {
            return -100 - fault;
        }
        law = text;
        return 1;
    }

    // ---- plates

    private boolean hinder(int a, int b) {
        return (bars[a] >> b & 1) == 1 || (bars[b] >> a & 1) == 1;
    }

    /** A spoon of what lies at a place, if it MAY be taken; else null. */
    private Spoon may(List<Spoon> lies, int[] dish, int place, int spoonsThere, int room) {
        if (spoonsThere < 1) {
            return null;
        }
        int used = 0;
        int same = 0;
        boolean runs = false;
        for (Spoon s : lies) {
            used += s.room;
            if (s.place == place) {
                same++;
            } else {
                if (hinder(s.sort, dish[4])) {
                    return null;
                }
                runs |= s.runs;
            }
        }
        int takes = dish[2] + (runs ? 1 : 0);
        if (used + takes > room) {
            return null;
        }
        return new Spoon(place, dish[4], dish[5] == 1, takes, dish[0] - same * dish[1]);
    }

    private static int worth(List<Spoon> lies) {
        int all = 0;
        for (Spoon s : lies) {
            all += s.worth;
        }
        return all;
    }

    private static int room(List<Spoon> lies) {
        int all = 0;
        for (Spoon s : lies) {
            all += s.room;
        }
        return all;
    }

    private static int of(List<Spoon> lies, int place) {
        int all = 0;
        for (Spoon s : lies) {
            if (s.place == place) {
                all++;
            }
        }
        return all;
    }

    // ---- ways

    /** The line as it is now: copies, so that guests may eat from it. */
    List<int[]> line() {
        List<int[]> copy = new ArrayList<>();
        for (int[] d : dishes) {
            copy.add(d.clone());
        }
        return copy;
    }

    /** The best plate from a place on, up to and with last: the first of those that are worth most, fewest first. */
    private List<Spoon> bestFrom(List<int[]> line, int place, int last, List<Spoon> lies, int room) {
        if (place > last) {
            return lies;
        }
        List<Spoon> best = bestFrom(line, place + 1, last, lies, room);
        List<Spoon> more = new ArrayList<>(lies);
        int[] dish = line.get(place);
        for (int k = 0; k < dish[3]; k++) {
            Spoon s = may(more, dish, place, dish[3] - k, room);
            if (s == null) {
                break;
            }
            more.add(s);
            List<Spoon> whole = bestFrom(line, place + 1, last, new ArrayList<>(more), room);
            if (worth(whole) > worth(best)) {
                best = whole;
            }
        }
        return best;
    }

    private Taken told(List<int[]> line, List<Spoon> lies, int room) {
        int[] counts = new int[line.size()];
        for (Spoon s : lies) {
            counts[s.place]++;
        }
        return new Taken(counts, worth(lies), room - room(lies));
    }

    Taken go(List<int[]> line, int way, int room) {
        if (way == 0) {
            return told(line, bestFrom(line, 0, line.size() - 1, new ArrayList<>(), room), room);
        }
        List<Spoon> lies = new ArrayList<>();
        for (int place = 0; place < line.size(); place++) {
            int[] dish = line.get(place);
            for (int k = 0; ; k++) {
                Spoon s = may(lies, dish, place, dish[3] - k, room);
                if (s == null || way == 1 && k == 1 || way == 2 && verdict(line, place, k, s, room - room(lies)) == 0) {
                    break;
                }
                lies.add(s);
            }
        }
        return told(line, lies, room);
    }

    private int verdict(List<int[]> line, int place, int taken, Spoon next, int left) {
        if (law == null) {
            return next.worth > 0 ? 1 : 0;
        }
        Map<Character, Integer> names = new HashMap<>();
        names.put('w', next.worth);
        names.put('s', next.room);
        names.put('l', left);
        names.put('k', place);
        names.put('n', line.size() - 1 - place);
        names.put('t', taken);
        return SlowLaw.value(law, names);
    }

    private Taken seeing(int s) {
        List<int[]> line = line();
        List<Spoon> lies = new ArrayList<>();
        for (int place = 0; place < line.size(); place++) {
            int last = Math.min(place + s, line.size() - 1);
            int wanted = of(bestFrom(line, place, last, lies, plate), place);
            for (int k = 0; k < wanted; k++) {
                lies.add(may(lies, line.get(place), place, line.get(place)[3] - k, plate));
            }
        }
        return told(line, lies, plate);
    }

    int best(int dish) {
        if (dish < -2 || dish >= dishes.size()) {
            return VOID;
        }
        Taken t = go(line(), 0, plate);
        return dish == -2 ? t.room : dish == -1 ? t.worth : t.counts[dish];
    }

    int sight(int s, int dish) {
        if (s < 0 || s > 8 || dish < -1 || dish >= dishes.size()) {
            return VOID;
        }
        Taken t = seeing(s);
        return dish == -1 ? t.worth : t.counts[dish];
    }

    int byLaw(int dish) {
        if (dish < -1 || dish >= dishes.size()) {
            return VOID;
        }
        Taken t = go(line(), 2, plate);
        return dish == -1 ? t.worth : t.counts[dish];
    }

    // ---- mean

    /** On the mean from a place on, in parts of 12 to the number of DISHES from there on. */
    private BigInteger meanFrom(List<int[]> line, int place, List<Spoon> lies) {
        if (place == line.size()) {
            return BigInteger.ZERO;
        }
        int chance = line.get(place)[7];
        BigInteger there = meanThere(line, place, lies)[0].multiply(BigInteger.valueOf(chance));
        return there.add(meanFrom(line, place + 1, lies).multiply(BigInteger.valueOf(12 - chance)));
    }

    /** The same if it is there (in parts of 12 to one less), and how many one takes. */
    private BigInteger[] meanThere(List<int[]> line, int place, List<Spoon> lies) {
        BigInteger unit = BigInteger.valueOf(12).pow(line.size() - 1 - place);
        BigInteger most = meanFrom(line, place + 1, lies);
        int fewest = 0;
        List<Spoon> more = new ArrayList<>(lies);
        int[] dish = line.get(place);
        int sum = 0;
        for (int k = 1; k <= dish[3]; k++) {
            Spoon s = may(more, dish, place, dish[3] - k + 1, plate);
            if (s == null) {
                break;
            }
            more.add(s);
            sum += s.worth;
            BigInteger all = unit.multiply(BigInteger.valueOf(sum)).add(meanFrom(line, place + 1, more));
            if (all.compareTo(most) > 0) {
                most = all;
                fewest = k;
            }
        }
        return new BigInteger[] {most, BigInteger.valueOf(fewest)};
    }

    private static long part(BigInteger above, BigInteger below, int part) {
        BigInteger common = above.gcd(below);
        return (part == 0 ? above : below).divide(common).longValueExact();
    }

    long mean(int part) {
        if (part < 0 || part > 4) {
            return Long.MIN_VALUE;
        }
        int n = dishes.size();
        if (part < 2) {
            return part(meanFrom(line(), 0, new ArrayList<>()), BigInteger.valueOf(12).pow(n), part);
        }
        if (n == 0) {
            return NOT;
        }
        BigInteger[] there = meanThere(line(), 0, new ArrayList<>());
        return part == 4 ? there[1].longValueExact() : part(there[0], BigInteger.valueOf(12).pow(n - 1), part - 2);
    }

    // ---- guests, hosts, offers

    private static boolean noShelf(int shelf) {
        return shelf < 0 || shelf > 5;
    }

    private static void eat(List<int[]> line, Taken t) {
        for (int i = 0; i < line.size(); i++) {
            line.get(i)[3] -= t.counts[i];
        }
    }

    private void queue(List<int[]> line, byte[] row) {
        for (int g = 0; g < row.length && g < 10; g++) {
            if (row[g] >= 0 && row[g] <= 3) {
                eat(line, go(line, row[g], plate));
            }
        }
    }

    private int refusal(int shelf) {
        return shelves[shelf] == null ? -11 : shelves[shelf] instanceof byte[] ? 0 : -12;
    }

    int left(int shelf, int dish) {
        if (noShelf(shelf) || dish < 0 || dish >= dishes.size()) {
            return BAD;
        }
        if (refusal(shelf) != 0) {
            return refusal(shelf);
        }
        List<int[]> line = line();
        queue(line, (byte[]) shelves[shelf]);
        return line.get(dish)[3];
    }

    int after(int shelf, int what) {
        if (noShelf(shelf) || what < 0 || what > 1 || refusal(shelf) != 0) {
            return VOID;
        }
        List<int[]> line = line();
        int all = 0;
        if (what == 1) {
            Taken t = go(line, 0, plate);
            all = t.worth;
            eat(line, t);
        }
        queue(line, (byte[]) shelves[shelf]);
        return all + go(line, 0, plate).worth;
    }

    private static boolean noPair(int pair, int most) {
        return pair < 10 || pair / 10 > most || pair % 10 > 3;
    }

    private int cost(List<int[]> line, int nh, int room) {
        int all = 0;
        for (int g = 0; g < nh / 10; g++) {
            Taken t = go(line, nh % 10, room);
            for (int i = 0; i < line.size(); i++) {
                all += t.counts[i] * line.get(i)[6];
            }
            eat(line, t);
        }
        return all;
    }

    int gone(int nh) {
        return noPair(nh, 10) ? BAD : cost(line(), nh, plate);
    }

    private void orders(List<Integer> ahead, List<List<Integer>> all) {
        if (ahead.size() == dishes.size()) {
            all.add(new ArrayList<>(ahead));
        }
        for (int i = 0; i < dishes.size(); i++) {
            if (!ahead.contains(i)) {
                ahead.add(i);
                orders(ahead, all);
                ahead.remove(ahead.size() - 1);
            }
        }
    }

    int lay(int nh, int place) {
        if (noPair(nh, 10) || place < -1 || place >= dishes.size()) {
            return BAD;
        }
        if (dishes.size() > 5) {
            return STATE;
        }
        List<List<Integer>> all = new ArrayList<>();
        orders(new ArrayList<>(), all);
        int least = Integer.MAX_VALUE;
        List<Integer> best = null;
        for (List<Integer> order : all) {
            List<int[]> line = new ArrayList<>();
            for (int d : order) {
                line.add(dishes.get(d).clone());
            }
            int cost = cost(line, nh, plate);
            if (cost < least) {
                least = cost;
                best = order;
            }
        }
        return place < 0 ? least : best.get(place);
    }

    int small(int nh, int most) {
        if (noPair(nh, 10) || most < 0) {
            return BAD;
        }
        int greatest = NOT;
        for (int room = 1; room <= 60; room++) {
            if (cost(line(), nh, room) <= most) {
                greatest = room;
            }
        }
        return greatest;
    }

    /** In how many of all orders of n offers letting r go by comes to the best one. */
    static long lucky(int n, int r) {
        return lucky(new ArrayList<>(), n, r);
    }

    private static long lucky(List<Integer> came, int n, int r) {
        if (came.size() == n) {
            int bar = -1;
            for (int i = 0; i < r; i++) {
                bar = Math.max(bar, came.get(i));
            }
            int got = came.get(n - 1);
            for (int i = r; i < n; i++) {
                if (came.get(i) > bar) {
                    got = came.get(i);
                    break;
                }
            }
            return got == n - 1 ? 1 : 0;
        }
        long all = 0;
        for (int v = 0; v < n; v++) {
            if (!came.contains(v)) {
                came.add(v);
                all += lucky(came, n, r);
                came.remove(came.size() - 1);
            }
        }
        return all;
    }

    // ---- told plates, draws

    private static int toldOf(byte[] row, int i) {
        return i < row.length ? row[i] : 0;
    }

    int judge(int shelf) {
        if (noShelf(shelf)) {
            return BAD;
        }
        if (refusal(shelf) != 0) {
            return refusal(shelf);
        }
        byte[] row = (byte[]) shelves[shelf];
        List<Spoon> lies = new ArrayList<>();
        for (int place = 0; place < dishes.size(); place++) {
            int told = toldOf(row, place);
            if (told < 0) {
                return place;
            }
            for (int k = 0; k < told; k++) {
                Spoon s = may(lies, dishes.get(place), place, dishes.get(place)[3] - k, plate);
                if (s == null) {
                    return place;
                }
                lies.add(s);
            }
        }
        return NOT;
    }

    int ways(int shelf) {
        if (noShelf(shelf)) {
            return BAD;
        }
        if (refusal(shelf) != 0) {
            return refusal(shelf);
        }
        byte[] row = (byte[]) shelves[shelf];
        int bits = 0;
        for (int way = 0; way < 4; way++) {
            int[] counts = go(line(), way, plate).counts;
            boolean same = true;
            for (int i = 0; i < counts.length; i++) {
                same &= counts[i] == toldOf(row, i);
            }
            bits += same ? 1 << way : 0;
        }
        return bits;
    }

    int drawn(int seed, int nw, int what) {
        if (noPair(nw, 20) || what < 0 || what > 1) {
            return VOID;
        }
        int z = seed;
        int all = 0;
        for (int i = 0; i < nw / 10; i++) {
            List<int[]> line = line();
            for (int[] dish : line) {
                z = z * 1103515245 + 12345;
                if (!((z >>> 8) % 12 < dish[7])) {
                    dish[3] = 0;
                }
            }
            Taken t = go(line, nw % 10, plate);
            all += what == 0 ? t.worth : t.spoons();
        }
        return all;
    }

    // ---- in deed

    int take() {
        if (dishes.isEmpty()) {
            return VOID;
        }
        int[] dish = dishes.get(at);
        Spoon s = may(mine, dish, at, dish[3], plate);
        if (s == null) {
            return VOID;
        }
        dish[3]--;
        mine.add(s);
        return s.worth;
    }

    int goOn() {
        if (dishes.isEmpty()) {
            return STATE;
        }
        if (at < dishes.size() - 1) {
            at++;
            return at;
        }
        goes++;
        goesWorth += worth(mine);
        end();
        return NOT;
    }

    int end() {
        int lay = mine.size();
        mine = new ArrayList<>();
        at = 0;
        return lay;
    }

    int led(int what) {
        int[] all = {worth(mine), mine.size(), plate - room(mine), goes, goesWorth, at};
        return what < 0 || what > 5 ? VOID : all[what];
    }

    int image() {
        int[] spoons = new int[dishes.size()];
        for (int i = 0; i < spoons.length; i++) {
            spoons[i] = dishes.get(i)[3];
        }
        picture = new Picture(at, new ArrayList<>(mine), spoons, goes, goesWorth);
        return at;
    }

    int back() {
        if (picture == null) {
            return STATE;
        }
        at = picture.at;
        mine = new ArrayList<>(picture.plate);
        goes = picture.goes;
        goesWorth = picture.goesWorth;
        for (int i = 0; i < picture.spoons.length; i++) {
            dishes.get(i)[3] = picture.spoons[i];
        }
        return at;
    }

    // ---- acts, shelves

    int body(int kind) {
        if (kind < 0 || kind > 7) {
            return BAD;
        }
        if (kinds.size() == 50) {
            return FULL;
        }
        kinds.add(kind);
        return kinds.size() - 1;
    }

    int act(int body, int act, int x) {
        trace.clear();
        if (body < 0 || body >= kinds.size() || act < 0 || act > 3) {
            return 0;
        }
        SlowBodies.Taker b = SlowBodies.make(kinds.get(body), body, trace);
        return act == 0 ? b.takes(x) : act == 1 ? b.goes(x) : act == 2 ? b.sees(x) : b.tells(x);
    }

    int trace(int i) {
        return i < 0 || i >= trace.size() || i >= 24 ? BAD : trace.get(i);
    }

    int keep(int shelf, int body) {
        if (noShelf(shelf) || body < -1 || body >= kinds.size()) {
            return BAD;
        }
        shelves[shelf] = body == -1 ? null : Integer.valueOf(body);
        return 1;
    }

    int row(int shelf, int sort, int n) {
        if (noShelf(shelf) || sort < 0 || sort > 4 || n > 60) {
            return BAD;
        }
        if (n < 0) {
            return -14;
        }
        shelves[shelf] = sort == 0 ? new byte[n] : sort == 1 ? new short[n] : sort == 2 ? new int[n]
                : sort == 3 ? new long[n] : new boolean[n];
        return 1;
    }

    private int refusalAt(int shelf, int i) {
        if (noShelf(shelf)) {
            return BAD;
        }
        Object o = shelves[shelf];
        if (o == null) {
            return -11;
        }
        if (o instanceof Integer) {
            return -12;
        }
        return i < 0 || i >= java.lang.reflect.Array.getLength(o) ? -13 : 0;
    }

    int put(int shelf, int i, long v) {
        int refusal = refusalAt(shelf, i);
        if (refusal != 0) {
            return refusal;
        }
        Object o = shelves[shelf];
        if (o instanceof byte[] r) {
            r[i] = (byte) v;
        } else if (o instanceof short[] r) {
            r[i] = (short) v;
        } else if (o instanceof int[] r) {
            r[i] = (int) v;
        } else if (o instanceof long[] r) {
            r[i] = v;
        } else if (o instanceof boolean[] r) {
            r[i] = v != 0;
        }
        return 1;
    }

    long element(int shelf, int i) {
        if (refusalAt(shelf, i) != 0) {
            return Long.MIN_VALUE;
        }
        Object o = shelves[shelf];
        if (o instanceof boolean[] r) {
            return r[i] ? 1 : 0;
        }
        return java.lang.reflect.Array.getLong(o, i);
    }

    int shift(int shelf, int i, int other, int j, int n) {
        if (noShelf(shelf) || noShelf(other)) {
            return BAD;
        }
        Object a = shelves[shelf];
        Object b = shelves[other];
        if (a == null || b == null) {
            return -11;
        }
        if (a instanceof Integer || b instanceof Integer || a.getClass() != b.getClass()) {
            return -12;
        }
        try {
            System.arraycopy(a, i, b, j, n);
        } catch (IndexOutOfBoundsException e) {
            return -13;
        }
        return n;
    }

    int taken(int shelf, int k) {
        if (noShelf(shelf) || k < 0 || k > 7) {
            return BAD;
        }
        if (shelves[shelf] == null) {
            return -11;
        }
        if (!(shelves[shelf] instanceof Integer body)) {
            return -12;
        }
        int kind = kinds.get(body);
        return SlowBodies.CLASSES.get(k).isAssignableFrom(SlowBodies.CLASSES.get(kind)) ? kind : -12;
    }

    int count(int what) {
        int spoons = 0;
        for (int[] d : dishes) {
            spoons += d[3];
        }
        int[] all = {dishes.size(), spoons, tape.length(), changes.size(), kinds.size(), trace.size()};
        return what < 0 || what > 5 ? BAD : all[what];
    }
}
