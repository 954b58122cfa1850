import java.util.Arrays;

/**
 * Past it only once: dishes in a line, one plate. The document DOC.md tells what each call answers, as numbered
 * promises; the words in capitals here are the document's.
 */
public final class PastOnce {
    public static final int BAD = -1, NOT = -2, FULL = -3, STATE = -5, VOID = -2000000000;

    private static final int NOTHING = -11, OTHER_KIND = -12, NO_PLACE = -13, NO_SIZE = -14;
    private static final int WORTH = 0, LESS = 1, SPACE = 2, SPOONS = 3, SORT = 4, RUNS = 5, DEAR = 6, CHANCE = 7;
    private static final int PLATE = 8, BARS = 9;
    private static final int NUMBERS = 8, DISHES = 9, SORTS = 5, GREATEST_PLATE = 60, TWELVE = 12;
    private static final int[] LEAST = {0, 0, 1, 0, 0, 0, 0, 0, 1, 0};
    private static final int[] MOST = {20, 9, 9, 9, 4, 1, 99, 12, 60, 31};
    private static final int[] AT_FIRST = {5, 1, 3, 4, 0, 0, 10, 12, 20, 0};
    private static final int BY_BEST = 0, SHY = 1, BY_LAW = 2, GREEDY = 3, HABITS = 4;
    private static final int GUESTS = 10, LINES = 20, LAID = 5, ORDERS = 120;
    private static final int A_FOUR = 4;
    private static final int NO_LIMIT = 2147483647;
    // The document's Long.MIN_VALUE: LANGUAGE.md lists the functions of Long alone.
    private static final long NO_NUMBER = -9223372036854775807L - 1;

    private final Table table = new Table();
    private final Law rule = new Law();
    private final Line line = new Line();
    private final Goer goer = new Goer(line, rule);
    private final Deed deed = new Deed();
    private final Deed kept = new Deed();
    private final Bodies bodies = new Bodies();
    private final Shelves shelves = new Shelves();
    private final int[] order = new int[DISHES];
    private final int[] bestOrder = new int[DISHES];
    private boolean imaged = false;

    public PastOnce() {
    }

    // ---- dishes

    public int dish(int ws, int sort) {
        if (ws < 0) {
            return BAD;
        }
        if (!Table.allowed(WORTH, ws / 10) || !Table.allowed(SPACE, ws % 10) || !Table.allowed(SORT, sort)) {
            return BAD;
        }
        if (table.size >= DISHES) {
            return FULL;
        }
        return table.add(ws / 10, ws % 10, AT_FIRST[SPOONS], sort);
    }

    public int dishes(int shelf, int i, int n) {
        if (!Shelves.isShelf(shelf) || n < 1 || n > DISHES) {
            return BAD;
        }
        if (shelves.isEmpty(shelf)) {
            return 0;
        }
        if (!shelves.isBytes(shelf)) {
            return OTHER_KIND;
        }
        if (i < 0) {
            return 0;
        }
        int came = 0;
        while (came < n && dishFromRow(shelf, i + A_FOUR * came)) {
            came++;
        }
        return came;
    }

    private boolean dishFromRow(int shelf, int i) {
        if (i > shelves.length(shelf) - A_FOUR || table.size >= DISHES) {
            return false;
        }
        int worth = (int) shelves.cell(shelf, i);
        int space = (int) shelves.cell(shelf, i + 1);
        int spoons = (int) shelves.cell(shelf, i + 2);
        int sort = (int) shelves.cell(shelf, i + 3);
        if (!Table.allowed(WORTH, worth) || !Table.allowed(SPACE, space)
                || !Table.allowed(SPOONS, spoons) || !Table.allowed(SORT, sort)) {
            return false;
        }
        table.add(worth, space, spoons, sort);
        return true;
    }

    public int mend(int number, int what, int v) {
        if (!table.has(number, what) || !Table.allowed(what, v)) {
            return BAD;
        }
        return table.change(number, what, v);
    }

    public int of(int number, int what) {
        return table.has(number, what) ? table.value(number, what) : BAD;
    }

    public int feed(int letter) {
        if (letter < 0 || letter > 255) {
            return BAD;
        }
        return rule.isTapeFull() ? FULL : rule.addByte(letter);
    }

    public int law() {
        return rule.readTape();
    }

    // ---- goes in thought

    private boolean isDish(int dish) {
        return dish >= 0 && dish < table.size;
    }

    public int best(int dish) {
        if (dish < -2 || dish >= table.size) {
            return VOID;
        }
        line.copy(table);
        goer.goBy(BY_BEST);
        return dish == -2 ? goer.room : goer.told(dish);
    }

    public int sight(int s, int dish) {
        if (s < 0 || s >= DISHES || dish < -1 || dish >= table.size) {
            return VOID;
        }
        line.copy(table);
        goer.goSeeing(s);
        return goer.told(dish);
    }

    public int byLaw(int dish) {
        if (dish < -1 || dish >= table.size) {
            return VOID;
        }
        line.copy(table);
        goer.goBy(BY_LAW);
        return goer.told(dish);
    }

    public long mean(int part) {
        if (part < 0 || part > 4) {
            return NO_NUMBER;
        }
        if (part >= 2 && table.size == 0) {
            return NOT;
        }
        line.copy(table);
        Ahead ahead = goer.ahead;
        ahead.look(line.size - 1, TWELVE);
        if (part < 2) {
            return Fractions.part(ahead.worthOfAll(), Fractions.power(TWELVE, line.size), part);
        }
        if (part == 4) {
            return ahead.fewest(0, line.plate, 0);
        }
        return Fractions.part(ahead.worthWithFirst(), Fractions.power(TWELVE, line.size - 1), part - 2);
    }

    // ---- guests, hosts, offers

    public int left(int shelf, int dish) {
        if (!Shelves.isShelf(shelf) || !isDish(dish)) {
            return BAD;
        }
        int refusal = shelves.refusalOfBytes(shelf);
        if (refusal != 0) {
            return refusal;
        }
        line.copy(table);
        letQueuePass(shelf);
        return line.num[SPOONS][dish];
    }

    public int after(int shelf, int what) {
        if (!Shelves.isShelf(shelf) || what < 0 || what > 1 || shelves.refusalOfBytes(shelf) != 0) {
            return VOID;
        }
        line.copy(table);
        int ahead = 0;
        if (what == 1) {
            goer.goBy(BY_BEST);
            line.lose(goer.got);
            ahead = goer.worth;
        }
        letQueuePass(shelf);
        goer.goBy(BY_BEST);
        return ahead + goer.worth;
    }

    private void letQueuePass(int shelf) {
        int guests = Math.min(GUESTS, shelves.length(shelf));
        for (int g = 0; g < guests; g++) {
            long habit = shelves.cell(shelf, g);
            if (habit >= 0 && habit < HABITS) {
                goer.goBy((int) habit);
                line.lose(goer.got);
            }
        }
    }

    // 10 times a number from 1 on, and one of the HABITS.
    private static boolean isPair(int pair, int most) {
        return pair >= 10 && pair / 10 <= most && pair % 10 < HABITS;
    }

    public int gone(int nh) {
        if (!isPair(nh, GUESTS)) {
            return BAD;
        }
        line.copy(table);
        return costOfGuests(nh, NO_LIMIT);
    }

    // No further guest is looked at once the cost is above the limit: then it no longer matters by how much.
    private int costOfGuests(int nh, int limit) {
        int cost = 0;
        int guests = nh / 10;
        for (int g = 0; g < guests && cost <= limit; g++) {
            goer.goBy(nh % 10);
            // The next one would find the same line and take none, too.
            if (goer.spoons == 0) {
                break;
            }
            cost += line.costOf(goer.got);
            line.lose(goer.got);
        }
        return cost;
    }

    public int lay(int nh, int place) {
        if (!isPair(nh, GUESTS) || place < -1 || place >= table.size) {
            return BAD;
        }
        if (table.size > LAID) {
            return STATE;
        }
        for (int i = 0; i < table.size; i++) {
            order[i] = i;
        }
        int least = NO_LIMIT;
        boolean more = true;
        for (int tried = 0; more && tried < ORDERS; tried++) {
            line.copyInOrder(table, order);
            int cost = costOfGuests(nh, least);
            if (cost < least) {
                least = cost;
                System.arraycopy(order, 0, bestOrder, 0, table.size);
            }
            more = Line.nextOrder(order, table.size);
        }
        return place == -1 ? least : bestOrder[place];
    }

    public int small(int nh, int most) {
        if (!isPair(nh, GUESTS) || most < 0) {
            return BAD;
        }
        for (int plate = GREATEST_PLATE; plate >= 1; plate--) {
            line.copy(table);
            line.plate = plate;
            if (costOfGuests(nh, most) <= most) {
                return plate;
            }
        }
        return NOT;
    }

    public long offers(int n, int r, int part) {
        if (n < 1 || n > TWELVE || r < 0 || r >= n || part < 0 || part > 1) {
            return NO_NUMBER;
        }
        return Fractions.part(Fractions.likely(n, r), (long) n * Fractions.SHARED, part);
    }

    public int stop(int n) {
        if (n < 1 || n > TWELVE) {
            return BAD;
        }
        int at = 0;
        for (int r = 1; r < n; r++) {
            if (Fractions.likely(n, r) > Fractions.likely(n, at)) {
                at = r;
            }
        }
        return at;
    }

    // ---- told plates, draws

    public int judge(int shelf) {
        int refusal = refusalOfTold(shelf);
        if (refusal != 0) {
            return refusal;
        }
        line.copy(table);
        goer.start();
        for (int i = 0; i < line.size; i++) {
            int told = toldSpoons(shelf, i);
            if (told < 0 || told > goer.mostOf(i)) {
                return i;
            }
            goer.serve(i, told);
        }
        return NOT;
    }

    private int refusalOfTold(int shelf) {
        return Shelves.isShelf(shelf) ? shelves.refusalOfBytes(shelf) : BAD;
    }

    private int toldSpoons(int shelf, int dish) {
        return dish < shelves.length(shelf) ? (int) shelves.cell(shelf, dish) : 0;
    }

    public int ways(int shelf) {
        int refusal = refusalOfTold(shelf);
        if (refusal != 0) {
            return refusal;
        }
        line.copy(table);
        int bits = 0;
        for (int way = 0; way < HABITS; way++) {
            goer.goBy(way);
            if (isJustTold(shelf)) {
                bits |= 1 << way;
            }
        }
        return bits;
    }

    private boolean isJustTold(int shelf) {
        for (int i = 0; i < line.size; i++) {
            if (goer.got[i] != toldSpoons(shelf, i)) {
                return false;
            }
        }
        return true;
    }

    public int drawn(int seed, int nw, int what) {
        if (!isPair(nw, LINES) || what < 0 || what > 1) {
            return VOID;
        }
        int z = seed;
        int worth = 0;
        int spoons = 0;
        int lines = nw / 10;
        for (int drawn = 0; drawn < lines; drawn++) {
            line.copy(table);
            z = line.draw(z);
            goer.goBy(nw % 10);
            worth += goer.worth;
            spoons += goer.spoons;
        }
        return what == 0 ? worth : spoons;
    }

    // ---- in deed

    public int take() {
        return deed.mayTake(table) ? deed.takeSpoon(table) : VOID;
    }

    public int goOn() {
        return table.size == 0 ? STATE : deed.step(table.size);
    }

    public int end() {
        int lay = deed.spoons;
        deed.startAnew();
        return lay;
    }

    public int led(int what) {
        switch (what) {
            case 0:
                return deed.worth;
            case 1:
                return deed.spoons;
            case 2:
                return table.plate - deed.used;
            case 3:
                return deed.goes;
            case 4:
                return deed.goesWorth;
            case 5:
                return deed.at;
            default:
                return VOID;
        }
    }

    public int image() {
        kept.copy(deed);
        kept.keepSpoons(table);
        imaged = true;
        return deed.at;
    }

    public int back() {
        if (!imaged) {
            return STATE;
        }
        deed.copy(kept);
        kept.layBackSpoons(table);
        return deed.at;
    }

    public int undo() {
        return table.mayUndo() ? table.undoLatest() : STATE;
    }

    public int redo() {
        return table.mayRedo() ? table.redoNext() : STATE;
    }

    // ---- acts, shelves

    public int body(int kind) {
        if (kind < 0 || kind >= Bodies.KINDS) {
            return BAD;
        }
        return bodies.isFull() ? FULL : bodies.add(kind);
    }

    public int act(int body, int act, int x) {
        bodies.forgetTrace();
        if (!bodies.has(body) || act < 0 || act >= Bodies.ACTS) {
            return 0;
        }
        return bodies.perform(body, act, x);
    }

    public int trace(int i) {
        return bodies.isTraced(i) ? bodies.traced(i) : BAD;
    }

    public int keep(int shelf, int body) {
        if (!Shelves.isShelf(shelf) || body != -1 && !bodies.has(body)) {
            return BAD;
        }
        shelves.holdBody(shelf, body);
        return 1;
    }

    public int row(int shelf, int sort, int n) {
        if (!Shelves.isShelf(shelf) || sort < 0 || sort >= Shelves.ROW_SORTS || n > Shelves.LONGEST) {
            return BAD;
        }
        if (n < 0) {
            return NO_SIZE;
        }
        shelves.holdRow(shelf, sort, n);
        return 1;
    }

    public int put(int shelf, int i, long v) {
        int refusal = shelves.refusalOfPlace(shelf, i);
        if (refusal != 0) {
            return refusal;
        }
        shelves.setCell(shelf, i, v);
        return 1;
    }

    public long element(int shelf, int i) {
        return shelves.refusalOfPlace(shelf, i) != 0 ? NO_NUMBER : shelves.cell(shelf, i);
    }

    public int shift(int shelf, int i, int other, int j, int n) {
        int refusal = shelves.refusalOfPair(shelf, other);
        if (refusal != 0) {
            return refusal;
        }
        if (!shelves.hasStretch(shelf, i, n) || !shelves.hasStretch(other, j, n)) {
            return NO_PLACE;
        }
        shelves.copyCells(shelf, i, other, j, n);
        return n;
    }

    public int taken(int shelf, int k) {
        if (!Shelves.isShelf(shelf) || k < 0 || k >= Bodies.KINDS) {
            return BAD;
        }
        if (shelves.isEmpty(shelf)) {
            return NOTHING;
        }
        if (shelves.isRow(shelf)) {
            return OTHER_KIND;
        }
        int kind = bodies.kindOf(shelves.bodyOn(shelf));
        return Bodies.isUnder(kind, k) ? kind : OTHER_KIND;
    }

    public int count(int what) {
        switch (what) {
            case 0:
                return table.size;
            case 1:
                return table.allSpoons();
            case 2:
                return rule.tapeLength();
            case 3:
                return table.done;
            case 4:
                return bodies.size;
            case 5:
                return bodies.ran;
            default:
                return BAD;
        }
    }

    /** DISHES, PLATE and BARS as they are, with their CHANGES. */
    private static final class Table {
        static final int KEPT = 40;

        final int[][] num = new int[NUMBERS][DISHES];
        final int[] bars = new int[SORTS];
        int size = 0;
        int plate = AT_FIRST[PLATE];
        // The changes that may be undone, and behind them those that may be done again.
        private final int[] numbers = new int[KEPT];
        private final int[] whats = new int[KEPT];
        private final int[] was = new int[KEPT];
        private final int[] became = new int[KEPT];
        int done = 0;
        private int undone = 0;

        static boolean allowed(int what, int v) {
            return what >= WORTH && what <= BARS && v >= LEAST[what] && v <= MOST[what];
        }

        boolean has(int number, int what) {
            if (number < 0 || what < WORTH || what > BARS) {
                return false;
            }
            if (what == PLATE) {
                return number == 0;
            }
            return number < (what == BARS ? SORTS : size);
        }

        int add(int worth, int space, int spoons, int sort) {
            if (size >= DISHES) {
                return FULL;
            }
            for (int what = 0; what < NUMBERS; what++) {
                num[what][size] = AT_FIRST[what];
            }
            num[WORTH][size] = worth;
            num[SPACE][size] = space;
            num[SPOONS][size] = spoons;
            num[SORT][size] = sort;
            size++;
            return size - 1;
        }

        int value(int number, int what) {
            if (what == PLATE) {
                return plate;
            }
            return what == BARS ? bars[number] : num[what][number];
        }

        private void set(int number, int what, int v) {
            if (what == PLATE) {
                plate = v;
            } else if (what == BARS) {
                bars[number] = v;
            } else {
                num[what][number] = v;
            }
        }

        int change(int number, int what, int v) {
            int old = value(number, what);
            if (old != v) {
                set(number, what, v);
                note(number, what, old, v);
            }
            return old;
        }

        private void note(int number, int what, int old, int v) {
            if (done >= KEPT) {
                dropOldest();
            }
            numbers[done] = number;
            whats[done] = what;
            was[done] = old;
            became[done] = v;
            done++;
            undone = 0;
        }

        private void dropOldest() {
            done = KEPT - 1;
            System.arraycopy(numbers, 1, numbers, 0, done);
            System.arraycopy(whats, 1, whats, 0, done);
            System.arraycopy(was, 1, was, 0, done);
            System.arraycopy(became, 1, became, 0, done);
        }

        boolean mayUndo() {
            return done > 0;
        }

        int undoLatest() {
            done--;
            undone++;
            set(numbers[done], whats[done], was[done]);
            return done;
        }

        boolean mayRedo() {
            return undone > 0;
        }

        int redoNext() {
            set(numbers[done], whats[done], became[done]);
            done++;
            undone--;
            return undone;
        }

        // BARS count either way.
        int barred(int sort) {
            int bits = bars[sort];
            for (int other = 0; other < SORTS; other++) {
                if ((bars[other] >> sort & 1) != 0) {
                    bits |= 1 << other;
                }
            }
            return bits;
        }

        int allSpoons() {
            int all = 0;
            for (int i = 0; i < size; i++) {
                all += num[SPOONS][i];
            }
            return all;
        }
    }

    /** A line in thought: a copy of what is on the table, in some ORDER, that guests may eat from. */
    private static final class Line {
        final int[][] num = new int[NUMBERS][DISHES];
        final int[] barred = new int[SORTS];
        int size = 0;
        int plate = 0;

        void copy(Table table) {
            size = table.size;
            for (int what = 0; what < NUMBERS; what++) {
                System.arraycopy(table.num[what], 0, num[what], 0, size);
            }
            copyRest(table);
        }

        void copyInOrder(Table table, int[] order) {
            size = table.size;
            for (int what = 0; what < NUMBERS; what++) {
                for (int i = 0; i < size; i++) {
                    num[what][i] = table.num[what][order[i]];
                }
            }
            copyRest(table);
        }

        private void copyRest(Table table) {
            plate = table.plate;
            for (int sort = 0; sort < SORTS; sort++) {
                barred[sort] = table.barred(sort);
            }
        }

        void lose(int[] got) {
            for (int i = 0; i < size; i++) {
                num[SPOONS][i] -= got[i];
            }
        }

        int costOf(int[] got) {
            int cost = 0;
            for (int i = 0; i < size; i++) {
                cost += num[DEAR][i] * got[i];
            }
            return cost;
        }

        // A DISH that is not there keeps its place: it has no spoons.
        int draw(int seed) {
            int z = seed;
            for (int i = 0; i < size; i++) {
                z = z * 1103515245 + 12345;
                if ((z >>> 8) % TWELVE >= num[CHANCE][i]) {
                    num[SPOONS][i] = 0;
                }
            }
            return z;
        }

        // The next ORDER by numbers; false behind the last one.
        static boolean nextOrder(int[] order, int size) {
            int turn = size - 2;
            while (turn >= 0 && order[turn] > order[turn + 1]) {
                turn--;
            }
            if (turn < 0) {
                return false;
            }
            int above = size - 1;
            while (above > turn && order[above] < order[turn]) {
                above--;
            }
            swap(order, turn, above);
            for (int low = turn + 1, high = size - 1; low < high; low++, high--) {
                swap(order, low, high);
            }
            return true;
        }

        private static void swap(int[] order, int i, int j) {
            int first = order[i];
            order[i] = order[j];
            order[j] = first;
        }
    }

    /**
     * The most that can come from a DISH on, by the room that is left and the SIGNS on the plate: bits of the SORTS
     * that may no more be taken, and RAN. What was worked out is kept as long as the line stays as it is.
     */
    private static final class Ahead {
        static final int RAN = 1 << SORTS;
        private static final int ROOMS = GREATEST_PLATE + 1, SIGNS = 2 * RAN, BLOCK = DISHES * ROOMS;
        // A kept number is a stamp and, below it, what was worked out: at most 1200 times 12 to the 9th.
        private static final int BITS = 44;
        private static final long LOW = (1L << BITS) - 1, LAST_STAMP = (1L << 63 - BITS) - 1;

        private final Line line;
        // A block for each of the SIGNS that were ever met: most lines have few of them.
        private long[] known = new long[2 * BLOCK];
        private final int[] blocks = new int[SIGNS];
        private int met = 0;
        private final int[] sortsFrom = new int[DISHES];
        private final long[] scale = new long[DISHES];
        private long stamp = 0;
        private int last = -1;
        private int parts = 1;
        private int chosen = 0;

        Ahead(Line line) {
            this.line = line;
        }

        /** Looks as far as the DISH last; each is there for sure (parts 1), or by its CHANCE (parts 12). */
        void look(int last, int parts) {
            this.last = Math.min(last, DISHES - 1);
            this.parts = parts;
            if (stamp >= LAST_STAMP) {
                Arrays.fill(known, 0L);
                stamp = 0;
            }
            stamp++;
            int sorts = 0;
            long whole = 1;
            for (int i = this.last; i >= 0; i--) {
                if (line.num[SPOONS][i] > 0) {
                    sorts |= 1 << line.num[SORT][i];
                }
                sortsFrom[i] = sorts;
                scale[i] = whole;
                whole *= parts;
            }
        }

        /** By 12 to the number of DISHES, if parts are 12. */
        long worthOfAll() {
            return worthFrom(0, line.plate, 0);
        }

        /** If the DISH 0 is there for sure: by 12 to the number of the others. */
        long worthWithFirst() {
            return worthIfThere(0, line.plate, 0);
        }

        /** How many spoons of the DISH i, that is there, are the fewest by which the most comes. */
        int fewest(int i, int room, int signs) {
            worthIfThere(i, room, signs);
            return chosen;
        }

        private long worthFrom(int i, int room, int signs) {
            if (i > last || room <= 0) {
                return 0;
            }
            // A SORT that no longer comes need not be told apart.
            int seen = signs & (sortsFrom[i] | RAN);
            int place = blockOf(seen) + i * ROOMS + room;
            if (known[place] >>> BITS == stamp) {
                return known[place] & LOW;
            }
            long worth = worthIfThere(i, room, seen);
            if (parts > 1) {
                int chance = line.num[CHANCE][i];
                worth = chance * worth + (parts - chance) * worthFrom(i + 1, room, seen);
            }
            known[place] = stamp << BITS | worth;
            return worth;
        }

        private int blockOf(int seen) {
            if (blocks[seen] == 0) {
                met++;
                blocks[seen] = met;
                if (met * BLOCK > known.length) {
                    known = Arrays.copyOf(known, 2 * known.length);
                }
            }
            return (blocks[seen] - 1) * BLOCK;
        }

        private long worthIfThere(int i, int room, int signs) {
            long most = worthFrom(i + 1, room, signs);
            int fewest = 0;
            int sort = line.num[SORT][i];
            if ((signs >> sort & 1) == 0) {
                int less = line.num[LESS][i];
                int spoons = line.num[SPOONS][i];
                int next = signs | line.barred[sort] | line.num[RUNS][i] * RAN;
                int space = line.num[SPACE][i] + signs / RAN;
                int spoonWorth = line.num[WORTH][i];
                int rest = room - space;
                long sum = 0;
                // A spoon that is worth nothing only takes room: no best way has it.
                for (int k = 1; k <= spoons && rest >= 0 && spoonWorth > 0; k++) {
                    sum += spoonWorth * scale[i];
                    long worth = sum + worthFrom(i + 1, rest, next);
                    if (worth > most) {
                        most = worth;
                        fewest = k;
                    }
                    spoonWorth -= less;
                    rest -= space;
                }
            }
            chosen = fewest;
            return most;
        }
    }

    /** One who goes along the line in thought, with an empty plate at first. */
    private static final class Goer {
        private final Line line;
        private final Law rule;
        final Ahead ahead;
        final int[] got = new int[DISHES];
        int room = 0;
        int worth = 0;
        int spoons = 0;
        private int signs = 0;

        Goer(Line line, Law rule) {
            this.line = line;
            this.rule = rule;
            this.ahead = new Ahead(line);
        }

        void start() {
            Arrays.fill(got, 0);
            room = line.plate;
            worth = 0;
            spoons = 0;
            signs = 0;
        }

        /** Worth (-1), or spoons of a DISH. */
        int told(int dish) {
            return dish < 0 || dish >= DISHES ? worth : got[dish];
        }

        private int spaceOf(int i) {
            return line.num[SPACE][i] + signs / Ahead.RAN;
        }

        /** How many spoons of a DISH MAY be taken. */
        int mostOf(int i) {
            int space = spaceOf(i);
            if (space < 1 || (signs >> line.num[SORT][i] & 1) != 0) {
                return 0;
            }
            return Math.min(line.num[SPOONS][i], room / space);
        }

        void serve(int i, int k) {
            if (k < 1) {
                return;
            }
            got[i] = k;
            spoons += k;
            worth += k * line.num[WORTH][i] - k * (k - 1) / 2 * line.num[LESS][i];
            room -= k * spaceOf(i);
            signs |= line.barred[line.num[SORT][i]] | line.num[RUNS][i] * Ahead.RAN;
        }

        void goBy(int way) {
            start();
            if (way == BY_BEST) {
                ahead.look(line.size - 1, 1);
            }
            for (int i = 0; i < line.size; i++) {
                switch (way) {
                    case BY_BEST:
                        serve(i, ahead.fewest(i, room, signs));
                        break;
                    case SHY:
                        serve(i, Math.min(1, mostOf(i)));
                        break;
                    case BY_LAW:
                        serve(i, wantedByLaw(i));
                        break;
                    case GREEDY:
                        serve(i, mostOf(i));
                        break;
                    default:
                        break;
                }
            }
        }

        private int wantedByLaw(int i) {
            int most = mostOf(i);
            int space = spaceOf(i);
            int k = 0;
            while (k < most) {
                int next = line.num[WORTH][i] - k * line.num[LESS][i];
                if (rule.verdict(next, space, room - k * space, i, line.size - 1 - i, k) == 0) {
                    break;
                }
                k++;
            }
            return k;
        }

        void goSeeing(int s) {
            start();
            int seen = -1;
            for (int i = 0; i < line.size; i++) {
                int last = Math.min(i + s, line.size - 1);
                if (last != seen) {
                    ahead.look(last, 1);
                    seen = last;
                }
                serve(i, ahead.fewest(i, room, signs));
            }
        }
    }

    /** THE TAPE, and THE LAW that was read from it last. */
    private static final class Law {
        private static final int LONGEST = 120, DEEPEST = 6;
        private static final int COMPARING = 2, OPERAND = 5;
        private static final int NO_BYTE = -1;
        private static final int FAULTS = -100;

        private final int[] tape = new int[LONGEST];
        private int length = 0;
        private int at = 0;
        private Code now = new Code();
        private Code spare = new Code();
        private boolean told = false;

        boolean isTapeFull() {
            return length >= LONGEST;
        }

        int addByte(int letter) {
            if (length < LONGEST) {
                tape[length] = letter;
                length++;
            }
            return length;
        }

        int tapeLength() {
            return length;
        }

        int readTape() {
            at = 0;
            spare.clear();
            boolean whole = readLines();
            length = 0;
            if (!whole) {
                return FAULTS - at;
            }
            Code old = now;
            now = spare;
            spare = old;
            told = true;
            return 1;
        }

        int verdict(int w, int s, int l, int k, int n, int t) {
            if (!told) {
                return w > 0 ? 1 : 0;
            }
            now.setNames(w, s, l, k, n, t);
            int from = 0;
            for (int i = 0; i < now.lines; i++) {
                int middle = now.firstEnd[i];
                if (middle == from || now.work(from, middle) != 0) {
                    return now.work(middle, now.lineEnd[i]);
                }
                from = now.lineEnd[i];
            }
            return 0;
        }

        private int peek() {
            return at < length ? tape[at] : NO_BYTE;
        }

        // Wherever reading stops short, at is the FAULT: all ahead of it could still go on.
        private boolean readLines() {
            for (int lines = 0; lines < LONGEST; lines++) {
                if (!readLine()) {
                    return false;
                }
                if (peek() == NO_BYTE) {
                    return true;
                }
                if (peek() != ';') {
                    return false;
                }
                at++;
            }
            return false;
        }

        private boolean readLine() {
            spare.markFirst();
            if (!readTerm(0, 0)) {
                return false;
            }
            if (peek() == '?') {
                at++;
                spare.markFirst();
                if (!readTerm(0, 0)) {
                    return false;
                }
            }
            spare.endLine();
            return true;
        }

        // The levels 0 to 4 are E, A, B, S, P of the document, 5 is O.
        private boolean readTerm(int level, int open) {
            if (level >= OPERAND) {
                return readOperand(open);
            }
            if (!readTerm(level + 1, open)) {
                return false;
            }
            int most = level == COMPARING ? 1 : LONGEST;
            for (int n = 0; n < most && levelOf(peek()) == level; n++) {
                int sign = peek();
                at++;
                if (!readTerm(level + 1, open)) {
                    return false;
                }
                spare.add(sign, 0);
            }
            return true;
        }

        private static int levelOf(int sign) {
            switch (sign) {
                case '|':
                    return 0;
                case '&':
                    return 1;
                case '<':
                case '=':
                case '>':
                    return COMPARING;
                case '+':
                case '-':
                    return 3;
                case '*':
                case '/':
                case '%':
                    return 4;
                default:
                    return NO_BYTE;
            }
        }

        private boolean readOperand(int open) {
            int c = peek();
            if (c >= '0' && c <= '9') {
                readNumber();
                return true;
            }
            if (Code.nameOf(c) >= 0) {
                at++;
                spare.add(Code.NAME, Code.nameOf(c));
                return true;
            }
            if (c != '(' && c != '!' && c != '-' || open >= DEEPEST) {
                return false;
            }
            at++;
            if (c == '(') {
                return readTerm(0, open + 1) && readClosing();
            }
            if (!readOperand(open + 1)) {
                return false;
            }
            spare.add(c == '!' ? c : Code.MINUS, 0);
            return true;
        }

        private boolean readClosing() {
            if (peek() != ')') {
                return false;
            }
            at++;
            return true;
        }

        private void readNumber() {
            int value = 0;
            for (int digits = 0; digits < 4 && peek() >= '0' && peek() <= '9'; digits++) {
                value = value * 10 + peek() - '0';
                at++;
            }
            spare.add(Code.NUMBER, value);
        }
    }

    /** THE LAW as steps on a pile of numbers; each byte of the text makes at most one step. */
    private static final class Code {
        static final int NUMBER = 1, NAME = 2, MINUS = 3;
        private static final int STEPS = 128, LONGEST = 64, NAMES = 6;

        private final int[] step = new int[STEPS];
        private final int[] with = new int[STEPS];
        // Where the first E of each LINE ends (where the LINE begins, if it has none), and the LINE.
        final int[] firstEnd = new int[LONGEST];
        final int[] lineEnd = new int[LONGEST];
        private final int[] names = new int[NAMES];
        private final int[] pile = new int[STEPS];
        int lines = 0;
        private int size = 0;

        void clear() {
            size = 0;
            lines = 0;
        }

        static int nameOf(int c) {
            switch (c) {
                case 'w':
                    return 0;
                case 's':
                    return 1;
                case 'l':
                    return 2;
                case 'k':
                    return 3;
                case 'n':
                    return 4;
                case 't':
                    return 5;
                default:
                    return -1;
            }
        }

        void setNames(int w, int s, int l, int k, int n, int t) {
            names[0] = w;
            names[1] = s;
            names[2] = l;
            names[3] = k;
            names[4] = n;
            names[5] = t;
        }

        void add(int sign, int value) {
            if (size < STEPS) {
                step[size] = sign;
                with[size] = value;
                size++;
            }
        }

        void markFirst() {
            if (lines < LONGEST) {
                firstEnd[lines] = size;
            }
        }

        void endLine() {
            if (lines < LONGEST) {
                lineEnd[lines] = size;
                lines++;
            }
        }

        /** What the steps of one E come to. */
        int work(int from, int to) {
            int high = 0;
            for (int p = from; p < to; p++) {
                int sign = step[p];
                if (sign == NUMBER || sign == NAME) {
                    if (high < STEPS) {
                        pile[high] = sign == NUMBER ? with[p] : names[with[p]];
                        high++;
                    }
                } else if (sign == MINUS || sign == '!') {
                    if (high >= 1) {
                        int top = pile[high - 1];
                        pile[high - 1] = sign == MINUS ? -top : top == 0 ? 1 : 0;
                    }
                } else if (high >= 2) {
                    high--;
                    pile[high - 1] = join(sign, pile[high - 1], pile[high]);
                }
            }
            return high >= 1 ? pile[high - 1] : 0;
        }

        private static int join(int sign, int a, int b) {
            switch (sign) {
                case '+':
                    return a + b;
                case '-':
                    return a - b;
                case '*':
                    return a * b;
                case '/':
                    return b == 0 ? 0 : a / b;
                case '%':
                    return b == 0 ? 0 : a % b;
                case '|':
                    return a != 0 || b != 0 ? 1 : 0;
                case '&':
                    return a != 0 && b != 0 ? 1 : 0;
                case '<':
                    return a < b ? 1 : 0;
                case '=':
                    return a == b ? 1 : 0;
                case '>':
                    return a > b ? 1 : 0;
                default:
                    return 0;
            }
        }
    }

    /** A go in deed; another one of these is its IMAGE. */
    private static final class Deed {
        int at = 0;
        int worth = 0;
        int spoons = 0;
        int used = 0;
        int goes = 0;
        int goesWorth = 0;
        // What lies there of earlier DISHES hinders; what lies there of this one does not until one goes on.
        private int here = 0;
        private int sortsHere = 0;
        private int sortsBefore = 0;
        private int ranHere = 0;
        private int ranBefore = 0;
        private final int[] spoonsThere = new int[DISHES];
        private int dishesThere = 0;

        boolean mayTake(Table table) {
            if (at >= table.size || table.num[SPOONS][at] < 1) {
                return false;
            }
            if ((sortsBefore & table.barred(table.num[SORT][at])) != 0) {
                return false;
            }
            return used + table.num[SPACE][at] + ranBefore <= table.plate;
        }

        int takeSpoon(Table table) {
            int gain = table.num[WORTH][at] - here * table.num[LESS][at];
            table.num[SPOONS][at]--;
            used += table.num[SPACE][at] + ranBefore;
            sortsHere |= 1 << table.num[SORT][at];
            ranHere |= table.num[RUNS][at];
            worth += gain;
            here++;
            spoons++;
            return gain;
        }

        int step(int dishes) {
            if (at + 1 < dishes) {
                at++;
                sortsBefore |= sortsHere;
                ranBefore |= ranHere;
                leaveDish();
                return at;
            }
            goes++;
            goesWorth += worth;
            startAnew();
            return NOT;
        }

        private void leaveDish() {
            here = 0;
            sortsHere = 0;
            ranHere = 0;
        }

        void startAnew() {
            at = 0;
            worth = 0;
            spoons = 0;
            used = 0;
            sortsBefore = 0;
            ranBefore = 0;
            leaveDish();
        }

        void copy(Deed other) {
            at = other.at;
            worth = other.worth;
            spoons = other.spoons;
            used = other.used;
            goes = other.goes;
            goesWorth = other.goesWorth;
            here = other.here;
            sortsHere = other.sortsHere;
            sortsBefore = other.sortsBefore;
            ranHere = other.ranHere;
            ranBefore = other.ranBefore;
        }

        void keepSpoons(Table table) {
            dishesThere = table.size;
            System.arraycopy(table.num[SPOONS], 0, spoonsThere, 0, dishesThere);
        }

        void layBackSpoons(Table table) {
            System.arraycopy(spoonsThere, 0, table.num[SPOONS], 0, dishesThere);
        }
    }

    /** BODIES, their acts, THE TRACE. */
    private static final class Bodies {
        static final int KINDS = 8, ACTS = 4;
        private static final int MOST_BODIES = 50, TRACED = 24, DEEPEST = 40;
        private static final int TAKES = 0, GOES = 1, SEES = 2, TELLS = 3;
        private static final int[] ABOVE = {-1, 0, 0, 2, 1, 3, 0, 6};
        // By KIND: the bodies of takes, goes, sees, tells; 0 where it has none of its own.
        private static final int[] OWN = {
            1, 10, 11, 2,
            20, 0, 0, 0,
            0, 30, 0, 0,
            0, 41, 40, 0,
            0, 0, 0, 50,
            0, 0, 60, 61,
            70, 0, 0, 0,
            81, 80, 0, 0};

        private final int[] kinds = new int[MOST_BODIES];
        private final int[] begun = new int[TRACED];
        int size = 0;
        int ran = 0;
        private int me = 0;

        boolean isFull() {
            return size >= MOST_BODIES;
        }

        boolean has(int number) {
            return number >= 0 && number < size;
        }

        int add(int kind) {
            if (size >= MOST_BODIES) {
                return FULL;
            }
            kinds[size] = kind;
            size++;
            return size - 1;
        }

        int kindOf(int number) {
            return has(number) ? kinds[number] : -1;
        }

        static boolean isUnder(int kind, int top) {
            int k = kind;
            for (int steps = 0; steps < KINDS && k >= 0 && k < KINDS; steps++) {
                if (k == top) {
                    return true;
                }
                k = ABOVE[k];
            }
            return false;
        }

        void forgetTrace() {
            ran = 0;
        }

        boolean isTraced(int i) {
            return i >= 0 && i < Math.min(ran, TRACED);
        }

        int traced(int i) {
            return begun[i];
        }

        int perform(int number, int act, int x) {
            me = number;
            return run(kinds[me], act, x, 0);
        }

        private int run(int from, int act, int x, int depth) {
            int kind = from;
            for (int steps = 0; steps < KINDS && kind >= 0 && depth < DEEPEST; steps++) {
                int number = OWN[kind * ACTS + act];
                if (number != 0) {
                    begin(number);
                    return work(number, ABOVE[kind], x, depth + 1);
                }
                kind = ABOVE[kind];
            }
            return 0;
        }

        private void begin(int number) {
            if (ran < TRACED) {
                begun[ran] = number;
            }
            ran++;
        }

        private int own(int act, int x, int depth) {
            return run(kinds[me], act, x, depth);
        }

        private int work(int number, int above, int x, int depth) {
            switch (number) {
                case 1:
                    return x + me;
                case 2:
                    return own(GOES, x, depth) - own(SEES, 1, depth);
                case 10:
                    return own(TAKES, x, depth) * 2;
                case 11:
                    return x ^ me;
                case 20:
                    return run(above, TAKES, x, depth) + 3;
                case 30:
                    return -run(above, GOES, x, depth);
                case 40:
                    return run(above, SEES, x, depth) * 3;
                case 41:
                    return run(above, GOES, x + 1, depth);
                case 50:
                    return run(above, TELLS, x, depth) ^ 5;
                case 60:
                    return run(above, SEES, x, depth) - own(TAKES, 2, depth);
                case 61:
                    return run(above, TELLS, x, depth) + 1;
                case 70:
                    return run(above, TAKES, x, depth) * 2;
                case 80:
                    return run(above, GOES, x, depth) + own(SEES, 2, depth);
                case 81:
                    return run(above, TAKES, x, depth) - 1;
                default:
                    return 0;
            }
        }
    }

    /** SHELVES: each holds nothing, a BODY or a ROW. */
    private static final class Shelves {
        static final int ROW_SORTS = 5, LONGEST = 60;
        private static final int SHELVES = 6, BYTES = 0, SHORTS = 1, INTS = 2, LONGS = 3;
        private static final int EMPTY = 0, BODY = 1, ROW = 2;

        private final int[] holds = new int[SHELVES];
        private final int[] numbers = new int[SHELVES];
        private final int[] sorts = new int[SHELVES];
        private final int[] lengths = new int[SHELVES];
        private final long[] cells = new long[SHELVES * LONGEST];

        static boolean isShelf(int shelf) {
            return shelf >= 0 && shelf < SHELVES;
        }

        boolean isEmpty(int shelf) {
            return holds[shelf] == EMPTY;
        }

        boolean isRow(int shelf) {
            return holds[shelf] == ROW;
        }

        boolean isBytes(int shelf) {
            return isRow(shelf) && sorts[shelf] == BYTES;
        }

        int bodyOn(int shelf) {
            return numbers[shelf];
        }

        int length(int shelf) {
            return lengths[shelf];
        }

        void holdBody(int shelf, int body) {
            holds[shelf] = body < 0 ? EMPTY : BODY;
            numbers[shelf] = body;
        }

        void holdRow(int shelf, int sort, int n) {
            holds[shelf] = ROW;
            sorts[shelf] = sort;
            lengths[shelf] = n;
            for (int i = 0; i < n; i++) {
                cells[shelf * LONGEST + i] = 0;
            }
        }

        int refusalOfBytes(int shelf) {
            if (isEmpty(shelf)) {
                return NOTHING;
            }
            return isBytes(shelf) ? 0 : OTHER_KIND;
        }

        int refusalOfPlace(int shelf, int i) {
            if (!isShelf(shelf)) {
                return BAD;
            }
            if (isEmpty(shelf)) {
                return NOTHING;
            }
            if (!isRow(shelf)) {
                return OTHER_KIND;
            }
            return i >= 0 && i < lengths[shelf] ? 0 : NO_PLACE;
        }

        int refusalOfPair(int shelf, int other) {
            if (!isShelf(shelf) || !isShelf(other)) {
                return BAD;
            }
            if (isEmpty(shelf) || isEmpty(other)) {
                return NOTHING;
            }
            return isRow(shelf) && isRow(other) && sorts[shelf] == sorts[other] ? 0 : OTHER_KIND;
        }

        boolean hasStretch(int shelf, int i, int n) {
            return i >= 0 && n >= 0 && n <= lengths[shelf] && i <= lengths[shelf] - n;
        }

        long cell(int shelf, int i) {
            return cells[shelf * LONGEST + i];
        }

        void setCell(int shelf, int i, long v) {
            cells[shelf * LONGEST + i] = lowBits(sorts[shelf], v);
        }

        private static long lowBits(int sort, long v) {
            switch (sort) {
                case BYTES:
                    return (byte) v;
                case SHORTS:
                    return (short) v;
                case INTS:
                    return (int) v;
                case LONGS:
                    return v;
                default:
                    return v != 0 ? 1 : 0;
            }
        }

        void copyCells(int shelf, int i, int other, int j, int n) {
            System.arraycopy(cells, shelf * LONGEST + i, cells, other * LONGEST + j, n);
        }
    }

    /** Fractions in lowest terms, and how likely OFFERS come to the best one. */
    private static final class Fractions {
        // All of 1 to 11 divide it, so the chances by each r are whole numbers of n times this.
        static final long SHARED = 27720;

        static long part(long above, long below, int part) {
            long common = commonDivisor(above, below);
            if (common == 0) {
                return 0;
            }
            return (part == 0 ? above : below) / common;
        }

        private static long commonDivisor(long a, long b) {
            long high = a;
            long low = b;
            for (int steps = 0; steps < 200 && low != 0; steps++) {
                long rest = high % low;
                high = low;
                low = rest;
            }
            return high;
        }

        static long power(int base, int times) {
            long all = 1;
            for (int i = 0; i < times; i++) {
                all *= base;
            }
            return all;
        }

        // Above n times SHARED. The offer j (0 on) is taken and the best if it is the best of all and the best of the
        // j ahead of it came among the first r: r by j.
        static long likely(int n, int r) {
            if (r < 1) {
                return SHARED;
            }
            long sum = 0;
            for (int j = r; j < n; j++) {
                sum += SHARED / j;
            }
            return r * sum;
        }
    }
}
