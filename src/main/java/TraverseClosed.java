/** Closed traverses: what ../shared/DOC.md promises, within the Java of ../shared/LANGUAGE.md. */
public final class TraverseClosed {

    private static final int MOST_SIDES = 8;
    private static final int MOST_LETTERS = 120;
    private static final int MOST_IN_ROW = 9;
    private static final int MOST_IN_LIST = 20;
    private static final int MOST_CHANGES = 8;
    private static final int LISTS = 3;

    private static final int PLAIN = 0;
    private static final int TAPED = 1;
    private static final int PACED = 2;
    private static final int CHAINED = 3;
    private static final int FIXED = 4;
    private static final int WHEELED = 5;

    private static final int NOBODY = -1;
    private static final int OTHER = -2;
    private static final int STATE = -3;
    private static final int BELOW = -4;
    private static final int ROOM = -6;
    private static final int NONE = -9;
    private static final int MISSING = -11;
    private static final int UNLIKE = -12;
    private static final int NO_PLACE = -13;
    private static final int NO_SIZE = -14;
    private static final long LONG_REFUSAL = 4000000000000000000L;

    private static final int FAULT_OF_LETTER = -1000;
    private static final int FAULT_OF_STATEMENT = -2000;

    private final Sides sides = new Sides();
    private final Sides draft = new Sides();
    private final Sides kept = new Sides();
    private boolean isKept = false;
    private final Past past = new Past();
    private final Lay lay = new Lay();
    private final Reader reader = new Reader();
    private final int[] letters = new int[MOST_LETTERS];
    private int letterCount = 0;
    private final int[] told = new int[MOST_IN_ROW];
    private int toldCount = 0;
    private final Row[] lists = new Row[LISTS];
    private final int[] refused = new int[1 - ROOM];

    public TraverseClosed() {
        for (int i = 0; i < LISTS; i++) {
            lists[i] = new Row();
        }
    }

    // ---- sides

    public int letter(int c) {
        if (c < 0) {
            return refuse(BELOW);
        }
        if (c > 255 || letterCount >= MOST_LETTERS) {
            return refuse(ROOM);
        }
        letters[letterCount] = c;
        letterCount++;
        return letterCount;
    }

    public int tells() {
        draft.become(sides);
        int answer = reader.read(letters, letterCount, draft);
        letterCount = 0;
        if (answer > 0) {
            past.keep(sides);
            sides.become(draft);
        }
        return answer;
    }

    public int side(int east, int north, int times) {
        int refusal = sides.refusalOfMore(east, north, times);
        if (refusal != 0) {
            return refuse(refusal);
        }
        past.keep(sides);
        return sides.open(sides.size, east, north, times);
    }

    public int insert(int at, int east, int north, int times) {
        int refusal = sides.refusalOfAhead(at, east, north, times);
        if (refusal != 0) {
            return refuse(refusal);
        }
        past.keep(sides);
        return sides.open(at, east, north, times);
    }

    public int kind(int side, int kind, int figure) {
        int refusal = sides.refusalOfKind(side, kind, figure);
        if (refusal != 0) {
            return refuse(refusal);
        }
        past.keep(sides);
        return sides.become(side, kind, figure);
    }

    public int gone(int side) {
        if (!sides.has(side)) {
            return refuse(NOBODY);
        }
        past.keep(sides);
        return sides.close(side);
    }

    public int turned() {
        past.keep(sides);
        return sides.reverse();
    }

    public long of(int side, int what) {
        if (!sides.has(side)) {
            return refuseLong(NOBODY);
        }
        switch (what) {
            case 0:
                return sides.kinds[side];
            case 1:
                return sides.figures[side];
            case 2:
                return sides.easts[side];
            case 3:
                return sides.norths[side];
            case 4:
                return sides.timeses[side];
            case 5:
                return sides.weight(side);
            case 6:
                return sides.stepEast(side);
            case 7:
                return sides.stepNorth(side);
            default:
                return refuseLong(OTHER);
        }
    }

    public long miss(int what) {
        if (!isOneOfTwo(what)) {
            return refuseLong(OTHER);
        }
        return what == 0 ? sides.missEast(sides.all()) : sides.missNorth(sides.all());
    }

    // ---- spread

    public long spread(int side, int what, int part) {
        if (!sides.has(side)) {
            return refuseLong(NOBODY);
        }
        if (!isOneOfTwo(what) || !isOneOfTwo(part)) {
            return refuseLong(OTHER);
        }
        if (!lay.settle(sides)) {
            return refuseLong(STATE);
        }
        return fraction(what == 0 ? lay.stepEasts[side] : lay.stepNorths[side], lay.weights, part);
    }

    public long corner(int corner, int what, int part) {
        if (!sides.has(corner)) {
            return refuseLong(NOBODY);
        }
        if (!isOneOfTwo(what) || !isOneOfTwo(part)) {
            return refuseLong(OTHER);
        }
        if (!lay.settle(sides)) {
            return refuseLong(STATE);
        }
        return fraction(what == 0 ? lay.easts[corner] : lay.norths[corner], lay.weights, part);
    }

    public long area(int part) {
        if (!isOneOfTwo(part)) {
            return refuseLong(OTHER);
        }
        if (!lay.settle(sides)) {
            return refuseLong(STATE);
        }
        return fraction(lay.crossSum(), lay.unit(), part);
    }

    public int turn(int corner) {
        if (!sides.has(corner)) {
            return refuse(NOBODY);
        }
        if (!lay.settle(sides)) {
            return refuse(STATE);
        }
        return lay.turnAt(corner);
    }

    public int cross(int a, int b) {
        if (!sides.has(a) || !sides.has(b) || a == b) {
            return refuse(NOBODY);
        }
        if (!lay.settle(sides) || lay.areNeighbours(a, b)) {
            return refuse(STATE);
        }
        return lay.meet(a, b) ? 1 : 0;
    }

    public int crosses() {
        if (!lay.settle(sides)) {
            return refuse(STATE);
        }
        return lay.meetings();
    }

    public int outline(int what) {
        if (!isOneOfTwo(what)) {
            return refuse(OTHER);
        }
        if (!lay.settle(sides)) {
            return refuse(STATE);
        }
        int bits = lay.outlineBits();
        return what == 0 ? bits : Integer.bitCount(bits);
    }

    public long hull(int part) {
        if (!isOneOfTwo(part)) {
            return refuseLong(OTHER);
        }
        if (!lay.settle(sides)) {
            return refuseLong(STATE);
        }
        return fraction(lay.hullSum(), lay.unit(), part);
    }

    // ---- what was lost

    public long lost(int side, int what) {
        if (!sides.has(side)) {
            return refuseLong(NOBODY);
        }
        if (!isOneOfTwo(what)) {
            return refuseLong(OTHER);
        }
        int others = sides.allBut(side);
        return what == 0 ? -sides.missEast(others) : -sides.missNorth(others);
    }

    public long lengths(int one, int other, int what, int part) {
        if (!sides.has(one) || !sides.has(other) || one == other) {
            return refuseLong(NOBODY);
        }
        if (!isOneOfTwo(what) || !isOneOfTwo(part)) {
            return refuseLong(OTHER);
        }
        long oneEast = sides.onceEast(one);
        long oneNorth = sides.onceNorth(one);
        long otherEast = sides.onceEast(other);
        long otherNorth = sides.onceNorth(other);
        long below = oneEast * otherNorth - oneNorth * otherEast;
        if (below == 0) {
            return refuseLong(STATE);
        }
        int rest = sides.allBut(one) & sides.allBut(other);
        long backEast = -sides.missEast(rest);
        long backNorth = -sides.missNorth(rest);
        long above = what == 0
            ? backEast * otherNorth - backNorth * otherEast
            : oneEast * backNorth - oneNorth * backEast;
        return fraction(above, below, part);
    }

    public int worst(int what) {
        if (!isOneOfTwo(what)) {
            return refuse(OTHER);
        }
        int least = sides.missing(sides.all());
        int found = NONE;
        for (int i = 0; i < sides.size; i++) {
            int without = sides.missing(sides.allBut(i));
            if (without < least) {
                least = without;
                found = i;
            }
        }
        return what == 0 || found == NONE ? found : least;
    }

    public int order(int i) {
        for (int s = 0; s < sides.size; s++) {
            if (sides.aheadByWeight(s) == i) {
                return s;
            }
        }
        return refuse(NOBODY);
    }

    public long likely(int t, int v, int part) {
        if (t < 2 || v < 0) {
            return refuseLong(BELOW);
        }
        if (t > 20 || v > 9999) {
            return refuseLong(ROOM);
        }
        if (!isOneOfTwo(part)) {
            return refuseLong(OTHER);
        }
        long fit = 0;
        for (int left = 0; left <= sides.all(); left++) {
            if (sides.missing(left) <= v) {
                fit += power(t - 1, Integer.bitCount(left));
            }
        }
        return fraction(fit, power(t, sides.size), part);
    }

    // ---- parcels

    public long parcel(int c, int k, int part) {
        if (!sides.has(c)) {
            return refuseLong(NOBODY);
        }
        if (k < 0) {
            return refuseLong(BELOW);
        }
        if (k > sides.size - 2) {
            return refuseLong(ROOM);
        }
        if (!isOneOfTwo(part)) {
            return refuseLong(OTHER);
        }
        if (!lay.settle(sides)) {
            return refuseLong(STATE);
        }
        return fraction(lay.parcelSum(c, k), lay.unit(), part);
    }

    public long cut(int c, int v, int what) {
        if (!sides.has(c)) {
            return refuseLong(NOBODY);
        }
        if (v < -9999) {
            return refuseLong(BELOW);
        }
        if (v > 9999) {
            return refuseLong(ROOM);
        }
        if (what < 0 || what > 2) {
            return refuseLong(OTHER);
        }
        if (!lay.settle(sides)) {
            return refuseLong(STATE);
        }
        long sought = v * 100L * lay.unit();
        int triangle = lay.triangleReaching(c, sought);
        if (triangle == NONE || what == 0) {
            return triangle;
        }
        long ahead = lay.parcelSum(c, triangle - 1);
        long behind = lay.parcelSum(c, triangle);
        return fraction(sought - ahead, behind - ahead, what - 1);
    }

    // ---- told rows, lists, lots

    public int whatIs(int side, int what) {
        if (!sides.has(side)) {
            return refuse(NOBODY);
        }
        if (!isOneOfTwo(what)) {
            return refuse(OTHER);
        }
        if (what == 1) {
            // No WEIGHT depends on the FIGURE: all ten fit, or none does.
            return fitsRow(side, sides.kinds[side]) ? 1023 : 0;
        }
        int bits = 0;
        for (int kind = PLAIN; kind <= WHEELED; kind++) {
            if (fitsRow(side, kind)) {
                bits |= 1 << kind;
            }
        }
        return bits;
    }

    public int row(int v) {
        if (v < 0) {
            return refuse(BELOW);
        }
        if (v > 99 || toldCount >= MOST_IN_ROW) {
            return refuse(ROOM);
        }
        told[toldCount] = v;
        toldCount++;
        return toldCount;
    }

    public int clear() {
        int had = toldCount;
        toldCount = 0;
        return had;
    }

    public int lots(int n, int z, int what) {
        if (n < 1) {
            return refuse(BELOW);
        }
        if (n > 20) {
            return refuse(ROOM);
        }
        if (!isOneOfTwo(what)) {
            return refuse(OTHER);
        }
        draft.become(sides);
        int seed = z;
        int good = 0;
        int together = 0;
        for (int lot = 0; lot < n; lot++) {
            seed = draft.drawTimes(seed);
            together += draft.missing(draft.all());
            if (lay.settle(draft) && lay.meetings() == 0) {
                good++;
            }
        }
        return what == 0 ? good : together;
    }

    public int list(int list, int sort, int n) {
        if (!isList(list)) {
            return refuse(NOBODY);
        }
        if (!isOneOfTwo(sort)) {
            return refuse(OTHER);
        }
        if (n > MOST_IN_LIST) {
            return refuse(ROOM);
        }
        if (n < 0) {
            return NO_SIZE;
        }
        lists[list].become(sort == 1, n);
        return 1;
    }

    public int put(int list, int i, long v) {
        if (!isList(list)) {
            return refuse(NOBODY);
        }
        if (lists[list].isMissing()) {
            return MISSING;
        }
        return lists[list].set(i, v) ? 1 : NO_PLACE;
    }

    public long look(int list, int i) {
        if (!isList(list)) {
            return refuseLong(NOBODY);
        }
        Row row = lists[list];
        if (row.isMissing()) {
            return LONG_REFUSAL - MISSING;
        }
        if (!row.has(i)) {
            return LONG_REFUSAL - NO_PLACE;
        }
        return row.numbers[i];
    }

    public int copy(int list, int i, int other, int j, int n) {
        if (!isList(list) || !isList(other)) {
            return refuse(NOBODY);
        }
        Row from = lists[list];
        Row to = lists[other];
        if (from.isMissing() || to.isMissing()) {
            return MISSING;
        }
        if (from.isOfInts != to.isOfInts) {
            return UNLIKE;
        }
        if (!from.hasAll(i, n) || !to.hasAll(j, n)) {
            return NO_PLACE;
        }
        System.arraycopy(from.numbers, i, to.numbers, j, n);
        return n;
    }

    public int lays(int list, int i) {
        if (!isList(list)) {
            return refuse(NOBODY);
        }
        if (!lay.settle(sides)) {
            return refuse(STATE);
        }
        Row row = lists[list];
        if (row.isMissing()) {
            return MISSING;
        }
        // Once i is a place, i and the few numbers behind it stay far from the ints' end.
        if (!row.has(i)) {
            return NO_PLACE;
        }
        for (int k = 0; k < 2 * lay.size; k++) {
            if (!row.set(i + k, lay.toldNumber(k))) {
                return NO_PLACE;
            }
        }
        return lay.size;
    }

    public int judge(int list) {
        if (!isList(list)) {
            return refuse(NOBODY);
        }
        if (!lay.settle(sides)) {
            return refuse(STATE);
        }
        Row row = lists[list];
        if (row.isMissing()) {
            return MISSING;
        }
        for (int k = 0; k < 2 * lay.size; k++) {
            if (!row.has(k)) {
                return 100 + k / 2;
            }
            if (row.numbers[k] != lay.toldNumber(k)) {
                return k / 2;
            }
        }
        return NONE;
    }

    // ---- changes, the image, what is told

    public int undo() {
        if (past.size == 0) {
            return refuse(STATE);
        }
        return past.bringBack(sides);
    }

    public int image() {
        kept.become(sides);
        isKept = true;
        return kept.size;
    }

    public int on() {
        if (!isKept) {
            return refuse(STATE);
        }
        sides.become(kept);
        past.size = 0;
        return sides.size;
    }

    public int count(int what) {
        switch (what) {
            case 0:
                return sides.size;
            case 1:
                return sides.weightOfAll();
            case 2:
                return letterCount;
            case 3:
                return toldCount;
            case 4:
                return past.size;
            default:
                return what >= 11 && what <= 16 ? refused[what - 10] : NONE;
        }
    }

    // ---- what the calls above share

    private int refuse(int refusal) {
        if (refusal <= NOBODY && refusal >= ROOM) {
            refused[-refusal]++;
        }
        return refusal;
    }

    private long refuseLong(int refusal) {
        return LONG_REFUSAL - refuse(refusal);
    }

    private static boolean isOneOfTwo(int choice) {
        return choice == 0 || choice == 1;
    }

    private static boolean isList(int list) {
        return list >= 0 && list < LISTS;
    }

    private boolean fitsRow(int side, int kind) {
        for (int i = 0; i < toldCount; i++) {
            if (told[i] != Sides.weightOf(kind, sides.easts[side], sides.norths[side], i + 1)) {
                return false;
            }
        }
        return true;
    }

    private static long power(long base, int times) {
        long product = 1;
        for (int i = 0; i < times; i++) {
            product *= base;
        }
        return product;
    }

    /** What stands above (part 0) or below (part 1) the line, in least terms. */
    private static long fraction(long above, long below, int part) {
        long common = commonDivisor(above, below);
        if (below == 0 || common == 0) {
            return part;
        }
        if (below < 0) {
            common = -common;
        }
        return part == 0 ? above / common : below / common;
    }

    private static long commonDivisor(long a, long b) {
        long x = Math.abs(a);
        long y = Math.abs(b);
        // Euclid needs fewer than 100 rounds for any two longs.
        for (int i = 0; i < 100 && y != 0; i++) {
            long rest = x % y;
            x = y;
            y = rest;
        }
        return x;
    }

    /** The sides of one traverse; sets of them are told by bits. */
    private static final class Sides {
        final int[] kinds = new int[MOST_SIDES];
        final int[] figures = new int[MOST_SIDES];
        final int[] easts = new int[MOST_SIDES];
        final int[] norths = new int[MOST_SIDES];
        final int[] timeses = new int[MOST_SIDES];
        int size = 0;

        boolean has(int side) {
            return side >= 0 && side < size;
        }

        int all() {
            return (1 << size) - 1;
        }

        int allBut(int side) {
            return all() & ~(1 << side);
        }

        void become(Sides other) {
            size = other.size;
            for (int i = 0; i < size; i++) {
                kinds[i] = other.kinds[i];
                figures[i] = other.figures[i];
                easts[i] = other.easts[i];
                norths[i] = other.norths[i];
                timeses[i] = other.timeses[i];
            }
        }

        int refusalOfMore(int east, int north, int times) {
            if (east < -9 || north < -9 || times < 1) {
                return BELOW;
            }
            if (east > 9 || north > 9 || times > 9 || size >= MOST_SIDES) {
                return ROOM;
            }
            return east == 0 && north == 0 ? STATE : 0;
        }

        int refusalOfAhead(int at, int east, int north, int times) {
            return has(at) ? refusalOfMore(east, north, times) : NOBODY;
        }

        int refusalOfKind(int side, int kind, int figure) {
            if (!has(side)) {
                return NOBODY;
            }
            if (kind < PLAIN || kind > WHEELED) {
                return OTHER;
            }
            if (figure < 0) {
                return BELOW;
            }
            return figure > 9 ? ROOM : 0;
        }

        /** Only behind refusalOfMore() or refusalOfAhead(): there is room then. */
        int open(int at, int east, int north, int times) {
            for (int i = size; i > at; i--) {
                move(i - 1, i);
            }
            kinds[at] = PLAIN;
            figures[at] = 0;
            easts[at] = east;
            norths[at] = north;
            timeses[at] = times;
            size++;
            return at;
        }

        /** Only behind refusalOfKind(). */
        int become(int side, int kind, int figure) {
            int had = 10 * kinds[side] + figures[side];
            kinds[side] = kind;
            figures[side] = figure;
            return had;
        }

        /** Only behind has(). */
        int close(int side) {
            size--;
            for (int i = side; i < size; i++) {
                move(i + 1, i);
            }
            return size;
        }

        int reverse() {
            for (int i = 0; i < size / 2; i++) {
                swap(i, size - 1 - i);
            }
            for (int i = 0; i < size; i++) {
                easts[i] = -easts[i];
                norths[i] = -norths[i];
            }
            return size;
        }

        void move(int from, int to) {
            kinds[to] = kinds[from];
            figures[to] = figures[from];
            easts[to] = easts[from];
            norths[to] = norths[from];
            timeses[to] = timeses[from];
        }

        void swap(int a, int b) {
            int kind = kinds[a];
            int figure = figures[a];
            int east = easts[a];
            int north = norths[a];
            int times = timeses[a];
            move(b, a);
            kinds[b] = kind;
            figures[b] = figure;
            easts[b] = east;
            norths[b] = north;
            timeses[b] = times;
        }

        int drawTimes(int seed) {
            int z = seed;
            for (int i = 0; i < size; i++) {
                z = z * 1664525 + 1013904223;
                timeses[i] = (z & 0x7fffffff) / 256 % 9 + 1;
            }
            return z;
        }

        int stretch(int side) {
            switch (kinds[side]) {
                case TAPED:
                case CHAINED:
                    return 10 + figures[side];
                case WHEELED:
                    return 10 - figures[side];
                default:
                    return 10;
            }
        }

        int onceEast(int side) {
            return stretch(side) * easts[side];
        }

        int onceNorth(int side) {
            return stretch(side) * norths[side];
        }

        int stepEast(int side) {
            return timeses[side] * onceEast(side);
        }

        int stepNorth(int side) {
            return timeses[side] * onceNorth(side);
        }

        static int weightOf(int kind, int east, int north, int times) {
            int plain = times * (Math.abs(east) + Math.abs(north));
            switch (kind) {
                case PACED:
                case WHEELED:
                    return 2 * plain;
                case CHAINED:
                    return Math.max(1, plain / 2);
                case FIXED:
                    return 0;
                default:
                    return plain;
            }
        }

        int weight(int side) {
            return weightOf(kinds[side], easts[side], norths[side], timeses[side]);
        }

        int weightOfAll() {
            int sum = 0;
            for (int i = 0; i < size; i++) {
                sum += weight(i);
            }
            return sum;
        }

        int aheadByWeight(int side) {
            int ahead = 0;
            for (int i = 0; i < size; i++) {
                int more = weight(i) - weight(side);
                if (more > 0 || more == 0 && i < side) {
                    ahead++;
                }
            }
            return ahead;
        }

        int missEast(int some) {
            int sum = 0;
            for (int i = 0; i < size; i++) {
                sum += (some >> i & 1) * stepEast(i);
            }
            return sum;
        }

        int missNorth(int some) {
            int sum = 0;
            for (int i = 0; i < size; i++) {
                sum += (some >> i & 1) * stepNorth(i);
            }
            return sum;
        }

        int missing(int some) {
            return Math.abs(missEast(some)) + Math.abs(missNorth(some));
        }
    }

    /** The spread steps and corners, all W times as great, so that they are whole numbers. */
    private static final class Lay {
        final long[] stepEasts = new long[MOST_SIDES];
        final long[] stepNorths = new long[MOST_SIDES];
        final long[] easts = new long[MOST_SIDES];
        final long[] norths = new long[MOST_SIDES];
        int size = 0;
        long weights = 0;

        /** Whether there are corners at all: W is above 0. */
        boolean settle(Sides sides) {
            size = sides.size;
            weights = sides.weightOfAll();
            long missEast = sides.missEast(sides.all());
            long missNorth = sides.missNorth(sides.all());
            long east = 0;
            long north = 0;
            for (int i = 0; i < size; i++) {
                easts[i] = east;
                norths[i] = north;
                stepEasts[i] = sides.stepEast(i) * weights - missEast * sides.weight(i);
                stepNorths[i] = sides.stepNorth(i) * weights - missNorth * sides.weight(i);
                east += stepEasts[i];
                north += stepNorths[i];
            }
            return weights > 0;
        }

        /** By what sums of cross products are to be divided to become areas. */
        long unit() {
            return 2 * weights * weights;
        }

        int round(int corner) {
            return corner < size ? corner : corner - size;
        }

        /** Above 0, if c is to the left of the line from a to b. */
        long leftness(int a, int b, int c) {
            return (easts[b] - easts[a]) * (norths[c] - norths[a])
                - (norths[b] - norths[a]) * (easts[c] - easts[a]);
        }

        long crossProduct(int a, int b) {
            return easts[a] * norths[b] - norths[a] * easts[b];
        }

        long crossSum() {
            long sum = 0;
            for (int i = 0; i < size; i++) {
                sum += crossProduct(i, round(i + 1));
            }
            return sum;
        }

        int turnAt(int corner) {
            int to = corner == 0 ? size - 1 : corner - 1;
            boolean hasNoWay = stepEasts[to] == 0 && stepNorths[to] == 0
                || stepEasts[corner] == 0 && stepNorths[corner] == 0;
            if (hasNoWay) {
                return 4;
            }
            long left = stepEasts[to] * stepNorths[corner] - stepNorths[to] * stepEasts[corner];
            if (left != 0) {
                return left > 0 ? 1 : 2;
            }
            long ahead = stepEasts[to] * stepEasts[corner] + stepNorths[to] * stepNorths[corner];
            return ahead > 0 ? 0 : 3;
        }

        boolean areNeighbours(int a, int b) {
            return round(a + 1) == b || round(b + 1) == a;
        }

        boolean meet(int a, int b) {
            int aEnd = round(a + 1);
            int bEnd = round(b + 1);
            long bFromA = leftness(a, aEnd, b);
            long bEndFromA = leftness(a, aEnd, bEnd);
            long aFromB = leftness(b, bEnd, a);
            long aEndFromB = leftness(b, bEnd, aEnd);
            boolean passThrough = Long.signum(bFromA) * Long.signum(bEndFromA) < 0
                && Long.signum(aFromB) * Long.signum(aEndFromB) < 0;
            return passThrough
                || bFromA == 0 && isBetween(a, aEnd, b)
                || bEndFromA == 0 && isBetween(a, aEnd, bEnd)
                || aFromB == 0 && isBetween(b, bEnd, a)
                || aEndFromB == 0 && isBetween(b, bEnd, aEnd);
        }

        /** Whether c, known to be on the line of a and b, is from a to b, both counted. */
        boolean isBetween(int a, int b, int c) {
            return Math.min(easts[a], easts[b]) <= easts[c]
                && easts[c] <= Math.max(easts[a], easts[b])
                && Math.min(norths[a], norths[b]) <= norths[c]
                && norths[c] <= Math.max(norths[a], norths[b]);
        }

        int meetings() {
            int pairs = 0;
            for (int a = 0; a < size; a++) {
                for (int b = a + 1; b < size; b++) {
                    if (!areNeighbours(a, b) && meet(a, b)) {
                        pairs++;
                    }
                }
            }
            return pairs;
        }

        boolean areAtOnePoint(int a, int b) {
            return easts[a] == easts[b] && norths[a] == norths[b];
        }

        boolean isFirstAtItsPoint(int corner) {
            for (int i = 0; i < corner; i++) {
                if (areAtOnePoint(i, corner)) {
                    return false;
                }
            }
            return true;
        }

        /** Whether all that are elsewhere are left of the line from a to b, or straight ahead on it. */
        boolean isEdgeOfAll(int a, int b) {
            for (int c = 0; c < size; c++) {
                long left = leftness(a, b, c);
                boolean isOnTheRay = left == 0 && !isBetween(b, c, a);
                if (!areAtOnePoint(a, c) && left <= 0 && !isOnTheRay) {
                    return false;
                }
            }
            return true;
        }

        boolean isAtOutline(int corner) {
            boolean isAlone = true;
            for (int i = 0; i < size; i++) {
                if (!areAtOnePoint(corner, i)) {
                    isAlone = false;
                    if (isEdgeOfAll(corner, i)) {
                        return true;
                    }
                }
            }
            return isAlone;
        }

        int outlineBits() {
            int bits = 0;
            for (int i = 0; i < size; i++) {
                if (isFirstAtItsPoint(i) && isAtOutline(i)) {
                    bits |= 1 << i;
                }
            }
            return bits;
        }

        /** Edges of the outline go round leftwards, so that their sum is never below 0. */
        long hullSum() {
            int bits = outlineBits();
            long sum = 0;
            for (int a = 0; a < size; a++) {
                for (int b = 0; b < size; b++) {
                    boolean areOfOutline = (bits >> a & 1) == 1 && (bits >> b & 1) == 1;
                    if (a != b && areOfOutline && isEdgeOfAll(a, b)) {
                        sum += crossProduct(a, b);
                    }
                }
            }
            return sum;
        }

        /** Only for a k of up to size - 2: no corner is met twice. */
        long parcelSum(int corner, int k) {
            long sum = 0;
            for (int j = 1; j <= k; j++) {
                sum += leftness(corner, round(corner + j), round(corner + j + 1));
            }
            return sum;
        }

        int triangleReaching(int corner, long sought) {
            for (int j = 1; j <= size - 2; j++) {
                long sum = parcelSum(corner, j);
                boolean isReached = sought > 0 && sum >= sought || sought < 0 && sum <= sought;
                if (sought == 0 || isReached) {
                    return j;
                }
            }
            return NONE;
        }

        /** The k-th of the told numbers: east and north of corner 0, of corner 1, .. */
        long toldNumber(int k) {
            return k % 2 == 0 ? easts[k / 2] : norths[k / 2];
        }
    }

    /** The sides as they were ahead of the latest changes. */
    private static final class Past {
        final Sides[] earlier = new Sides[MOST_CHANGES];
        int next = 0;
        int size = 0;

        Past() {
            for (int i = 0; i < MOST_CHANGES; i++) {
                earlier[i] = new Sides();
            }
        }

        void keep(Sides sides) {
            earlier[next].become(sides);
            next = (next + 1) % MOST_CHANGES;
            size = Math.min(size + 1, MOST_CHANGES);
        }

        /** Only if size is above 0. */
        int bringBack(Sides sides) {
            next = (next + MOST_CHANGES - 1) % MOST_CHANGES;
            sides.become(earlier[next]);
            size--;
            return size;
        }
    }

    /** Reads statements letter by letter and tries each on a draft as soon as it is whole. */
    private static final class Reader {
        // What may stand behind the first letter: # a digit, ~ one with perhaps a minus ahead.
        private static final String OF_SIDE = "~,~*#;";
        private static final String OF_INSERT = "#:~,~*#;";
        private static final String OF_KIND = "#=#,#;";
        private static final String OF_GONE = "#;";
        private static final String OF_TURNED = ";";
        private static final String OF_NOTHING = "";
        private static final int MOST_NUMBERS = 4;

        final int[] numbers = new int[MOST_NUMBERS];
        int numberCount = 0;
        int first = 0;
        String form = OF_NOTHING;
        int place = 0;
        boolean isBelowZero = false;

        /** How many statements came to the draft, or the fault. */
        int read(int[] letters, int length, Sides draft) {
            form = OF_NOTHING;
            place = 0;
            int statements = 0;
            int begin = 0;
            int wrong = -1;
            for (int i = 0; i < length; i++) {
                if (isBetweenStatements()) {
                    begin = i;
                }
                if (!takes(letters[i])) {
                    return FAULT_OF_LETTER - i;
                }
                if (isBetweenStatements()) {
                    statements++;
                    if (wrong < 0 && !comesTo(draft)) {
                        wrong = begin;
                    }
                }
            }
            if (statements == 0 || !isBetweenStatements()) {
                return FAULT_OF_LETTER - length;
            }
            return wrong < 0 ? statements : FAULT_OF_STATEMENT - wrong;
        }

        boolean isBetweenStatements() {
            return place >= form.length();
        }

        boolean takes(int letter) {
            if (isBetweenStatements()) {
                return begins(letter);
            }
            char due = form.charAt(place);
            if (due == '~' && letter == '-' && !isBelowZero) {
                isBelowZero = true;
                return true;
            }
            if (due == '~' || due == '#') {
                return takesDigit(letter);
            }
            place++;
            return letter == due;
        }

        boolean begins(int letter) {
            form = formOf(letter);
            first = letter;
            place = 0;
            numberCount = 0;
            isBelowZero = false;
            return !form.isEmpty();
        }

        boolean takesDigit(int letter) {
            if (letter < '0' || letter > '9' || numberCount >= MOST_NUMBERS) {
                return false;
            }
            int digit = letter - '0';
            numbers[numberCount] = isBelowZero ? -digit : digit;
            numberCount++;
            isBelowZero = false;
            place++;
            return true;
        }

        static String formOf(int letter) {
            switch (letter) {
                case 's':
                    return OF_SIDE;
                case 'i':
                    return OF_INSERT;
                case 'k':
                    return OF_KIND;
                case 'd':
                    return OF_GONE;
                case 'r':
                    return OF_TURNED;
                default:
                    return OF_NOTHING;
            }
        }

        /** Whether the statement just read is as it must be; only then it changes the draft. */
        boolean comesTo(Sides draft) {
            switch (first) {
                case 's':
                    return addsTo(draft);
                case 'i':
                    return insertsInto(draft);
                case 'k':
                    return changesKind(draft);
                case 'd':
                    return takesFrom(draft);
                default:
                    draft.reverse();
                    return true;
            }
        }

        boolean addsTo(Sides draft) {
            if (draft.refusalOfMore(numbers[0], numbers[1], numbers[2]) != 0) {
                return false;
            }
            draft.open(draft.size, numbers[0], numbers[1], numbers[2]);
            return true;
        }

        boolean insertsInto(Sides draft) {
            if (draft.refusalOfAhead(numbers[0], numbers[1], numbers[2], numbers[3]) != 0) {
                return false;
            }
            draft.open(numbers[0], numbers[1], numbers[2], numbers[3]);
            return true;
        }

        boolean changesKind(Sides draft) {
            if (draft.refusalOfKind(numbers[0], numbers[1], numbers[2]) != 0) {
                return false;
            }
            draft.become(numbers[0], numbers[1], numbers[2]);
            return true;
        }

        boolean takesFrom(Sides draft) {
            if (!draft.has(numbers[0])) {
                return false;
            }
            draft.close(numbers[0]);
            return true;
        }
    }

    /** A list: ints are held as the longs that they are alike to. */
    private static final class Row {
        final long[] numbers = new long[MOST_IN_LIST];
        int size = -1;
        boolean isOfInts = false;

        boolean isMissing() {
            return size < 0;
        }

        boolean has(int i) {
            return i >= 0 && i < size;
        }

        boolean hasAll(int from, int n) {
            return from >= 0 && n >= 0 && n <= size && from <= size - n;
        }

        void become(boolean ints, int n) {
            isOfInts = ints;
            size = n;
            for (int i = 0; i < n; i++) {
                numbers[i] = 0;
            }
        }

        boolean set(int i, long v) {
            if (!has(i)) {
                return false;
            }
            numbers[i] = isOfInts ? (int) v : v;
            return true;
        }
    }
}
