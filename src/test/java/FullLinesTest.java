import java.math.BigInteger;
import java.util.HashMap;
import java.util.Map;
import java.util.Random;

/**
 * Lines as long and full as they may be, which Slow is too slow for: BEST, SIGHT, MEAN and guests by BEST, held against
 * what is worked out by the SORTS that lie on the plate, with spoons that are worth nothing tried as well.
 */
public final class FullLinesTest {
    private static final Check C = new Check("FullLinesTest");
    private static final int WORTH = 0, LESS = 1, SPACE = 2, SPOONS = 3, SORT = 4, RUNS = 5, DEAR = 6, CHANCE = 7;
    private static final int LINES = 1500, MOST_DISHES = 9, GUESTS = 10;

    /** One at a place, seeing as far as last: the room that is used, the SORTS that lie there as bits, whether one RAN. */
    private record Stand(int place, int last, int used, int sorts, int ran) {
    }

    /** What is most, and the spoons of each DISH as digits, the first DISH's the highest. */
    private record Most(BigInteger worth, long spoons) {
        int of(int dish) {
            return (int) (spoons >> shift(dish) & 15);
        }

        boolean isLessThan(BigInteger other, long otherSpoons) {
            int order = worth.compareTo(other);
            return order < 0 || order == 0 && otherSpoons < spoons;
        }
    }

    private final String run;
    private final PastOnce x = new PastOnce();
    private final int[][] dishes;
    private final int[] bars = new int[5];
    private final int plate;
    // 1: each DISH is there; 12: by its CHANCE.
    private int parts = 1;
    private final Map<Stand, Most> known = new HashMap<>();

    public static void main(String[] args) {
        for (int seed = 0; seed < LINES && C.isClean(); seed++) {
            FullLinesTest t = new FullLinesTest(seed);
            t.best();
            t.sight();
            t.mean();
            t.guests();
        }
        C.finish();
    }

    private FullLinesTest(int seed) {
        Random random = new Random(seed);
        run = "line " + seed + ", ";
        dishes = new int[random.nextInt(4) == 0 ? random.nextInt(MOST_DISHES) : MOST_DISHES][];
        for (int i = 0; i < dishes.length; i++) {
            int less = random.nextInt(random.nextBoolean() ? 3 : 10);
            int space = 1 + random.nextInt(random.nextBoolean() ? 3 : 9);
            dishes[i] = new int[] {random.nextInt(21), less, space, random.nextInt(10), random.nextInt(5), random.nextInt(4) / 3,
                random.nextInt(100), random.nextInt(13)};
            x.dish(dishes[i][WORTH] * 10 + space, dishes[i][SORT]);
            for (int what : new int[] {LESS, SPOONS, RUNS, DEAR, CHANCE}) {
                x.mend(i, what, dishes[i][what]);
            }
        }
        for (int sort = 0; sort < bars.length; sort++) {
            bars[sort] = random.nextInt(3) > 0 ? 0 : 1 << random.nextInt(5) | random.nextInt(32) * (random.nextInt(4) / 3);
            x.mend(sort, 9, bars[sort]);
        }
        plate = 1 + random.nextInt(60);
        x.mend(0, 8, plate);
    }

    private static int shift(int dish) {
        return 4 * (MOST_DISHES - 1 - dish);
    }

    private boolean isBarred(int sort, int sorts) {
        for (int other = 0; other < bars.length; other++) {
            if ((sorts >> other & 1) == 1 && ((bars[other] >> sort | bars[sort] >> other) & 1) == 1) {
                return true;
            }
        }
        return false;
    }

    private Most from(Stand at) {
        if (at.place > at.last) {
            return new Most(BigInteger.ZERO, 0);
        }
        Most most = known.get(at);
        if (most == null) {
            most = ifThere(at);
            if (parts > 1) {
                int chance = dishes[at.place][CHANCE];
                Stand next = new Stand(at.place + 1, at.last, at.used, at.sorts, at.ran);
                most = new Most(times(most.worth, chance).add(times(from(next).worth, parts - chance)), 0);
            }
            known.put(at, most);
        }
        return most;
    }

    private Most ifThere(Stand at) {
        int[] dish = dishes[at.place];
        BigInteger unit = BigInteger.valueOf(parts).pow(at.last - at.place);
        int space = dish[SPACE] + at.ran;
        int spoons = isBarred(dish[SORT], at.sorts) ? 0 : Math.min(dish[SPOONS], (plate - at.used) / space);
        Most most = from(new Stand(at.place + 1, at.last, at.used, at.sorts, at.ran));
        for (int k = 1; k <= spoons; k++) {
            Most rest = from(new Stand(at.place + 1, at.last, at.used + k * space, at.sorts | 1 << dish[SORT], at.ran | dish[RUNS]));
            BigInteger worth = times(unit, worthOf(dish, k)).add(rest.worth);
            long all = (long) k << shift(at.place) | rest.spoons;
            if (most.isLessThan(worth, all)) {
                most = new Most(worth, all);
            }
        }
        return most;
    }

    private static BigInteger times(BigInteger a, int b) {
        return a.multiply(BigInteger.valueOf(b));
    }

    private static int worthOf(int[] dish, int spoons) {
        int worth = 0;
        for (int i = 0; i < spoons; i++) {
            worth += dish[WORTH] - i * dish[LESS];
        }
        return worth;
    }

    private Most bestOfAll() {
        known.clear();
        parts = 1;
        return from(new Stand(0, dishes.length - 1, 0, 0, 0));
    }

    private void best() {
        Most most = bestOfAll();
        C.due(run + "best(-1)", x.best(-1), most.worth.intValueExact());
        int room = plate;
        int ran = 0;
        for (int i = 0; i < dishes.length; i++) {
            C.due(run + "best(" + i + ")", x.best(i), most.of(i));
            room -= most.of(i) * (dishes[i][SPACE] + ran);
            ran |= most.of(i) > 0 ? dishes[i][RUNS] : 0;
        }
        C.due(run + "best(-2)", x.best(-2), room);
    }

    private void sight() {
        known.clear();
        for (int s = 0; s <= 8; s++) {
            Stand at = new Stand(0, 0, 0, 0, 0);
            int worth = 0;
            for (int i = 0; i < dishes.length; i++) {
                at = new Stand(i, Math.min(i + s, dishes.length - 1), at.used, at.sorts, at.ran);
                int k = from(at).of(i);
                C.due(run + "sight(" + s + ", " + i + ")", x.sight(s, i), k);
                worth += worthOf(dishes[i], k);
                if (k > 0) {
                    at = new Stand(i, i, at.used + k * (dishes[i][SPACE] + at.ran), at.sorts | 1 << dishes[i][SORT], at.ran | dishes[i][RUNS]);
                }
            }
            C.due(run + "sight(" + s + ", -1)", x.sight(s, -1), worth);
        }
    }

    private void fraction(int part, BigInteger above, int dishesBehind) {
        BigInteger below = BigInteger.valueOf(12).pow(dishesBehind);
        BigInteger common = above.gcd(below);
        C.due(run + "mean(" + part + ")", x.mean(part), above.divide(common).longValueExact());
        C.due(run + "mean(" + (part + 1) + ")", x.mean(part + 1), below.divide(common).longValueExact());
    }

    private void mean() {
        known.clear();
        parts = 12;
        Stand at = new Stand(0, dishes.length - 1, 0, 0, 0);
        fraction(0, from(at).worth, dishes.length);
        if (dishes.length > 0) {
            Most there = ifThere(at);
            fraction(2, there.worth, dishes.length - 1);
            C.due(run + "mean(4)", x.mean(4), there.of(0));
        }
    }

    /** Guests by BEST, one after another: what they cost, and what they leave. */
    private void guests() {
        int cost = 0;
        for (int guest = 1; guest <= GUESTS; guest++) {
            Most most = bestOfAll();
            for (int i = 0; i < dishes.length; i++) {
                cost += most.of(i) * dishes[i][DEAR];
                dishes[i][SPOONS] -= most.of(i);
            }
            C.due(run + "gone(" + guest + "0)", x.gone(10 * guest), cost);
        }
        x.row(0, 0, GUESTS + 1);
        for (int i = 0; i < dishes.length; i++) {
            C.due(run + "left(0, " + i + ")", x.left(0, i), dishes[i][SPOONS]);
        }
        C.due(run + "after(0, 0)", x.after(0, 0), bestOfAll().worth.intValueExact());
    }
}
