import java.math.BigInteger;
import java.util.ArrayDeque;
import java.util.ArrayList;
import java.util.Arrays;
import java.util.Comparator;
import java.util.Deque;
import java.util.List;
import java.util.TreeSet;
import java.util.regex.Matcher;
import java.util.regex.Pattern;

/**
 * The document written a second time, by other ways than the class goes: exact fractions, regular
 * expressions, sorted lists. It is there to be compared, not to be fast.
 */
public final class Model {

    /** Says that a call is refused; every refusal of the model comes this way. */
    private static final class Refused extends RuntimeException {
        private static final long serialVersionUID = 1L;
        final int code;

        Refused(int code) {
            super(null, null, false, false);
            this.code = code;
        }
    }

    private interface Call {
        long answer();
    }

    record Fr(BigInteger above, BigInteger below) implements Comparable<Fr> {
        static final Fr ZERO = Fr.of(0);

        static Fr of(long n) {
            return new Fr(BigInteger.valueOf(n), BigInteger.ONE);
        }

        static Fr make(BigInteger a, BigInteger b) {
            BigInteger g = a.gcd(b);
            if (b.signum() < 0) {
                g = g.negate();
            }
            return new Fr(a.divide(g), b.divide(g));
        }

        Fr plus(Fr o) {
            return make(above.multiply(o.below).add(o.above.multiply(below)), below.multiply(o.below));
        }

        Fr minus(Fr o) {
            return plus(new Fr(o.above.negate(), o.below));
        }

        Fr times(Fr o) {
            return make(above.multiply(o.above), below.multiply(o.below));
        }

        Fr by(Fr o) {
            return make(above.multiply(o.below), below.multiply(o.above));
        }

        int sign() {
            return above.signum();
        }

        @Override
        public int compareTo(Fr o) {
            return minus(o).sign();
        }

        long part(int part) {
            return (part == 0 ? above : below).longValueExact();
        }
    }

    record Point(Fr e, Fr n) implements Comparable<Point> {
        Point minus(Point o) {
            return new Point(e.minus(o.e), n.minus(o.n));
        }

        Point plus(Point o) {
            return new Point(e.plus(o.e), n.plus(o.n));
        }

        Fr wedge(Point o) {
            return e.times(o.n).minus(n.times(o.e));
        }

        Fr dot(Point o) {
            return e.times(o.e).plus(n.times(o.n));
        }

        boolean isZero() {
            return e.sign() == 0 && n.sign() == 0;
        }

        @Override
        public int compareTo(Point o) {
            int byEast = e.compareTo(o.e);
            return byEast != 0 ? byEast : n.compareTo(o.n);
        }
    }

    record Side(int east, int north, int times, int kind, int figure) {
        int stretch() {
            return kind == 1 || kind == 3 ? 10 + figure : kind == 5 ? 10 - figure : 10;
        }

        int weight() {
            int w = times * (Math.abs(east) + Math.abs(north));
            return switch (kind) {
                case 2, 5 -> w * 2;
                case 3 -> w < 2 ? 1 : w / 2;
                case 4 -> 0;
                default -> w;
            };
        }

        int stepEast() {
            return times * stretch() * east;
        }

        int stepNorth() {
            return times * stretch() * north;
        }

        Side with(int newTimes) {
            return new Side(east, north, newTimes, kind, figure);
        }
    }

    private List<Side> sides = new ArrayList<>();
    private List<Side> taken = null;
    private final Deque<List<Side>> past = new ArrayDeque<>();
    private final StringBuilder letters = new StringBuilder();
    private final List<Integer> told = new ArrayList<>();
    private final Object[] lists = new Object[3];
    private final int[] refused = new int[7];

    // ---- refusals

    private static void refuseIf(boolean wrong, int code) {
        if (wrong) {
            throw new Refused(code);
        }
    }

    private int counted(Refused r) {
        if (r.code >= -6) {
            refused[-r.code]++;
        }
        return r.code;
    }

    private int ints(Call call) {
        try {
            return (int) call.answer();
        } catch (Refused r) {
            return counted(r);
        }
    }

    private long longs(Call call) {
        try {
            return call.answer();
        } catch (Refused r) {
            return 4000000000000000000L - counted(r);
        }
    }

    private void mustBeSide(int i) {
        refuseIf(i < 0 || i >= sides.size(), -1);
    }

    private static void mustBe01(int what) {
        refuseIf(what != 0 && what != 1, -2);
    }

    private void mustHaveCorners() {
        refuseIf(w(sides) == 0, -3);
    }

    // ---- sides

    public int letter(int c) {
        return ints(() -> {
            refuseIf(c < 0, -4);
            refuseIf(c > 255 || letters.length() == 120, -6);
            letters.append((char) c);
            return letters.length();
        });
    }

    private static final String DIGIT = "([0-9])";
    private static final String SIGNED = "(-?[0-9])";
    private static final Pattern STATEMENT = Pattern.compile(
        "s" + SIGNED + "," + SIGNED + "\\*" + DIGIT + ";|i" + DIGIT + ":" + SIGNED + "," + SIGNED + "\\*" + DIGIT
            + ";|k" + DIGIT + "=" + DIGIT + "," + DIGIT + ";|d" + DIGIT + ";|r;");

    public int tells() {
        String text = letters.toString();
        letters.setLength(0);
        List<Side> now = new ArrayList<>(sides);
        int at = 0;
        int many = 0;
        int wrongAt = -1;
        Matcher m = STATEMENT.matcher(text);
        while (at < text.length() && m.region(at, text.length()).lookingAt()) {
            many++;
            if (wrongAt < 0) {
                try {
                    now = behind(now, m);
                } catch (Refused r) {
                    wrongAt = at;
                }
            }
            at = m.end();
        }
        if (at < text.length() || many == 0) {
            return -1000 - (at + viable(text.substring(at)));
        }
        if (wrongAt >= 0) {
            return -2000 - wrongAt;
        }
        changed(now);
        return many;
    }

    /** How long the longest beginning of the text is that can still become a statement. */
    private static int viable(String text) {
        int n = 0;
        for (int i = 1; i <= text.length(); i++) {
            Matcher m = STATEMENT.matcher(text.substring(0, i));
            if (m.matches() || m.hitEnd()) {
                n = i;
            } else {
                break;
            }
        }
        return n;
    }

    private static List<Side> behind(List<Side> now, Matcher m) {
        return switch (m.group().charAt(0)) {
            case 's' -> added(now, now.size(), n(m, 1), n(m, 2), n(m, 3));
            case 'i' -> inserted(now, n(m, 4), n(m, 5), n(m, 6), n(m, 7));
            case 'k' -> kinded(now, n(m, 8), n(m, 9), n(m, 10));
            case 'd' -> without(now, n(m, 11));
            default -> turnedOnes(now);
        };
    }

    private static int n(Matcher m, int group) {
        return Integer.parseInt(m.group(group));
    }

    private void changed(List<Side> now) {
        past.addLast(sides);
        if (past.size() > 8) {
            past.removeFirst();
        }
        sides = now;
    }

    private static List<Side> added(List<Side> now, int at, int east, int north, int times) {
        refuseIf(Math.min(east, north) < -9 || times < 1, -4);
        refuseIf(Math.max(Math.max(east, north), times) > 9 || now.size() == 8, -6);
        refuseIf(east == 0 && north == 0, -3);
        List<Side> then = new ArrayList<>(now);
        then.add(at, new Side(east, north, times, 0, 0));
        return then;
    }

    private static List<Side> inserted(List<Side> now, int at, int east, int north, int times) {
        refuseIf(at < 0 || at >= now.size(), -1);
        return added(now, at, east, north, times);
    }

    private static List<Side> kinded(List<Side> now, int side, int kind, int figure) {
        refuseIf(side < 0 || side >= now.size(), -1);
        refuseIf(kind < 0 || kind > 5, -2);
        refuseIf(figure < 0, -4);
        refuseIf(figure > 9, -6);
        List<Side> then = new ArrayList<>(now);
        Side s = now.get(side);
        then.set(side, new Side(s.east, s.north, s.times, kind, figure));
        return then;
    }

    private static List<Side> without(List<Side> now, int side) {
        refuseIf(side < 0 || side >= now.size(), -1);
        List<Side> then = new ArrayList<>(now);
        then.remove(side);
        return then;
    }

    private static List<Side> turnedOnes(List<Side> now) {
        List<Side> then = new ArrayList<>();
        for (Side s : now) {
            then.add(0, new Side(-s.east, -s.north, s.times, s.kind, s.figure));
        }
        return then;
    }

    public int side(int east, int north, int times) {
        return ints(() -> {
            changed(added(sides, sides.size(), east, north, times));
            return sides.size() - 1;
        });
    }

    public int insert(int at, int east, int north, int times) {
        return ints(() -> {
            changed(inserted(sides, at, east, north, times));
            return at;
        });
    }

    public int kind(int side, int kind, int figure) {
        return ints(() -> {
            List<Side> then = kinded(sides, side, kind, figure);
            Side had = sides.get(side);
            changed(then);
            return 10 * had.kind + had.figure;
        });
    }

    public int gone(int side) {
        return ints(() -> {
            changed(without(sides, side));
            return sides.size();
        });
    }

    public int turned() {
        changed(turnedOnes(sides));
        return sides.size();
    }

    public long of(int side, int what) {
        return longs(() -> {
            mustBeSide(side);
            refuseIf(what < 0 || what > 7, -2);
            Side s = sides.get(side);
            return new int[] {s.kind, s.figure, s.east, s.north, s.times, s.weight(), s.stepEast(), s.stepNorth()}[what];
        });
    }

    private static int missEast(List<Side> of) {
        return of.stream().mapToInt(Side::stepEast).sum();
    }

    private static int missNorth(List<Side> of) {
        return of.stream().mapToInt(Side::stepNorth).sum();
    }

    private static int size(List<Side> of) {
        return Math.abs(missEast(of)) + Math.abs(missNorth(of));
    }

    private static int w(List<Side> of) {
        return of.stream().mapToInt(Side::weight).sum();
    }

    public long miss(int what) {
        return longs(() -> {
            mustBe01(what);
            return what == 0 ? missEast(sides) : missNorth(sides);
        });
    }

    // ---- spread

    private static Point spreadStep(List<Side> of, int i) {
        Fr share = Fr.of(of.get(i).weight()).by(Fr.of(w(of)));
        Point whole = new Point(Fr.of(of.get(i).stepEast()), Fr.of(of.get(i).stepNorth()));
        return whole.minus(new Point(Fr.of(missEast(of)).times(share), Fr.of(missNorth(of)).times(share)));
    }

    /** One more than there are sides: behind the last one it is 0, 0 again. */
    private static List<Point> corners(List<Side> of) {
        List<Point> all = new ArrayList<>();
        all.add(new Point(Fr.ZERO, Fr.ZERO));
        for (int i = 0; i < of.size(); i++) {
            all.add(all.get(i).plus(spreadStep(of, i)));
        }
        return all;
    }

    private static Fr half(Fr f) {
        return f.by(Fr.of(2));
    }

    public long spread(int side, int what, int part) {
        return longs(() -> {
            mustBeSide(side);
            mustBe01(what);
            mustBe01(part);
            mustHaveCorners();
            Point p = spreadStep(sides, side);
            return (what == 0 ? p.e : p.n).part(part);
        });
    }

    public long corner(int corner, int what, int part) {
        return longs(() -> {
            mustBeSide(corner);
            mustBe01(what);
            mustBe01(part);
            mustHaveCorners();
            Point p = corners(sides).get(corner);
            return (what == 0 ? p.e : p.n).part(part);
        });
    }

    private static Fr areaOf(List<Point> round) {
        Fr sum = Fr.ZERO;
        for (int i = 0; i < round.size(); i++) {
            sum = sum.plus(round.get(i).wedge(round.get((i + 1) % round.size())));
        }
        return half(sum);
    }

    public long area(int part) {
        return longs(() -> {
            mustBe01(part);
            mustHaveCorners();
            return areaOf(corners(sides)).part(part);
        });
    }

    public int turn(int corner) {
        return ints(() -> {
            mustBeSide(corner);
            mustHaveCorners();
            Point to = spreadStep(sides, (corner + sides.size() - 1) % sides.size());
            Point from = spreadStep(sides, corner);
            if (to.isZero() || from.isZero()) {
                return 4;
            }
            int left = to.wedge(from).sign();
            return left > 0 ? 1 : left < 0 ? 2 : to.dot(from).sign() > 0 ? 0 : 3;
        });
    }

    private static boolean neighbours(int a, int b, int n) {
        int d = Math.abs(a - b);
        return d == 1 || d == n - 1;
    }

    /** Whether p is on the way from a to b. */
    private static boolean on(Point a, Point b, Point p) {
        return p.minus(a).wedge(p.minus(b)).sign() == 0 && p.minus(a).dot(p.minus(b)).sign() <= 0;
    }

    private static boolean in01(Fr f) {
        return f.sign() >= 0 && f.compareTo(Fr.of(1)) <= 0;
    }

    private static boolean crossing(List<Side> of, int i, int j) {
        List<Point> c = corners(of);
        Point a = c.get(i);
        Point b = c.get(i + 1);
        Point p = c.get(j);
        Point q = c.get(j + 1);
        Fr det = b.minus(a).wedge(q.minus(p));
        if (det.sign() == 0) {
            return on(a, b, p) || on(a, b, q) || on(p, q, a) || on(p, q, b);
        }
        // a and s of the way to b are p and t of the way to q.
        Fr s = p.minus(a).wedge(q.minus(p)).by(det);
        Fr t = p.minus(a).wedge(b.minus(a)).by(det);
        return in01(s) && in01(t);
    }

    private static int pairs(List<Side> of) {
        int n = of.size();
        int pairs = 0;
        for (int a = 0; a < n; a++) {
            for (int b = 0; b < a; b++) {
                pairs += !neighbours(a, b, n) && crossing(of, a, b) ? 1 : 0;
            }
        }
        return pairs;
    }

    public int cross(int a, int b) {
        return ints(() -> {
            mustBeSide(a);
            mustBeSide(b);
            refuseIf(a == b, -1);
            mustHaveCorners();
            refuseIf(neighbours(a, b, sides.size()), -3);
            return crossing(sides, a, b) ? 1 : 0;
        });
    }

    public int crosses() {
        return ints(() -> {
            mustHaveCorners();
            return pairs(sides);
        });
    }

    /** The outline's points, leftwards round, by Andrew's chain. */
    private List<Point> chain() {
        List<Point> points = new ArrayList<>(new TreeSet<>(corners(sides)));
        if (points.size() < 3) {
            return points;
        }
        List<Point> round = new ArrayList<>();
        for (int way = 0; way < 2; way++) {
            int floor = round.size();
            for (int i = 0; i < points.size(); i++) {
                Point p = points.get(way == 0 ? i : points.size() - 1 - i);
                while (round.size() >= floor + 2) {
                    Point last = round.get(round.size() - 1);
                    if (last.minus(round.get(round.size() - 2)).wedge(p.minus(last)).sign() > 0) {
                        break;
                    }
                    round.remove(round.size() - 1);
                }
                round.add(p);
            }
            round.remove(round.size() - 1);
        }
        return round;
    }

    public int outline(int what) {
        return ints(() -> {
            mustBe01(what);
            mustHaveCorners();
            int bits = 0;
            for (Point p : chain()) {
                bits |= 1 << corners(sides).indexOf(p);
            }
            return what == 0 ? bits : chain().size();
        });
    }

    public long hull(int part) {
        return longs(() -> {
            mustBe01(part);
            mustHaveCorners();
            return areaOf(chain()).part(part);
        });
    }

    // ---- what was lost

    public long lost(int side, int what) {
        return longs(() -> {
            mustBeSide(side);
            mustBe01(what);
            List<Side> rest = without(sides, side);
            return -(what == 0 ? missEast(rest) : missNorth(rest));
        });
    }

    public long lengths(int one, int other, int what, int part) {
        return longs(() -> {
            mustBeSide(one);
            mustBeSide(other);
            refuseIf(one == other, -1);
            mustBe01(what);
            mustBe01(part);
            Side a = sides.get(one).with(1);
            Side b = sides.get(other).with(1);
            List<Side> rest = without(without(sides, Math.max(one, other)), Math.min(one, other));
            Point u = new Point(Fr.of(a.stepEast()), Fr.of(a.stepNorth()));
            Point v = new Point(Fr.of(b.stepEast()), Fr.of(b.stepNorth()));
            Point back = new Point(Fr.of(-missEast(rest)), Fr.of(-missNorth(rest)));
            refuseIf(u.wedge(v).sign() == 0, -3);
            Fr x = back.wedge(v).by(u.wedge(v));
            Fr y = u.wedge(back).by(u.wedge(v));
            return (what == 0 ? x : y).part(part);
        });
    }

    public int worst(int what) {
        return ints(() -> {
            mustBe01(what);
            int best = -9;
            for (int i = sides.size() - 1; i >= 0; i--) {
                int size = size(without(sides, i));
                if (size < size(sides) && (best < 0 || size <= size(without(sides, best)))) {
                    best = i;
                }
            }
            return best < 0 ? -9 : what == 0 ? best : size(without(sides, best));
        });
    }

    public int order(int i) {
        return ints(() -> {
            mustBeSide(i);
            List<Integer> all = new ArrayList<>();
            for (int s = 0; s < sides.size(); s++) {
                all.add(s);
            }
            all.sort(Comparator.comparingInt((Integer s) -> -sides.get(s).weight()));
            return all.get(i);
        });
    }

    private static Fr chance(List<Side> left, int from, List<Side> of, Fr one, int v) {
        if (from == of.size()) {
            return size(left) <= v ? Fr.of(1) : Fr.ZERO;
        }
        List<Side> more = new ArrayList<>(left);
        more.add(of.get(from));
        Fr ifLost = chance(left, from + 1, of, one, v);
        Fr ifLeft = chance(more, from + 1, of, one, v);
        return one.times(ifLost).plus(Fr.of(1).minus(one).times(ifLeft));
    }

    public long likely(int t, int v, int part) {
        return longs(() -> {
            refuseIf(t < 2 || v < 0, -4);
            refuseIf(t > 20 || v > 9999, -6);
            mustBe01(part);
            return chance(List.of(), 0, sides, Fr.of(1).by(Fr.of(t)), v).part(part);
        });
    }

    // ---- parcels

    private Fr parcelOf(int c, int k) {
        List<Point> p = corners(sides);
        int n = sides.size();
        Fr sum = Fr.ZERO;
        for (int j = 1; j <= k; j++) {
            sum = sum.plus(areaOf(List.of(p.get(c), p.get((c + j) % n), p.get((c + j + 1) % n))));
        }
        return sum;
    }

    public long parcel(int c, int k, int part) {
        return longs(() -> {
            mustBeSide(c);
            refuseIf(k < 0, -4);
            refuseIf(k > sides.size() - 2, -6);
            mustBe01(part);
            mustHaveCorners();
            return parcelOf(c, k).part(part);
        });
    }

    public long cut(int c, int v, int what) {
        return longs(() -> {
            mustBeSide(c);
            refuseIf(v < -9999, -4);
            refuseIf(v > 9999, -6);
            refuseIf(what < 0 || what > 2, -2);
            mustHaveCorners();
            if (v == 0) {
                return sides.size() < 3 ? -9 : what == 1 ? 0 : 1;
            }
            Fr sought = Fr.of(100L * v);
            for (int j = 1; j <= sides.size() - 2; j++) {
                Fr now = parcelOf(c, j);
                if (v > 0 ? now.compareTo(sought) >= 0 : now.compareTo(sought) <= 0) {
                    Fr ahead = parcelOf(c, j - 1);
                    return what == 0 ? j : sought.minus(ahead).by(now.minus(ahead)).part(what - 1);
                }
            }
            return -9;
        });
    }

    // ---- told rows, lists, lots

    private boolean isSo(Side s) {
        for (int i = 0; i < told.size(); i++) {
            if (s.with(i + 1).weight() != told.get(i)) {
                return false;
            }
        }
        return true;
    }

    public int whatIs(int side, int what) {
        return ints(() -> {
            mustBeSide(side);
            mustBe01(what);
            Side s = sides.get(side);
            int bits = 0;
            for (int i = 0; i < (what == 0 ? 6 : 10); i++) {
                Side other = new Side(s.east, s.north, s.times, what == 0 ? i : s.kind, what == 1 ? i : s.figure);
                bits += isSo(other) ? 1 << i : 0;
            }
            return bits;
        });
    }

    public int row(int v) {
        return ints(() -> {
            refuseIf(v < 0, -4);
            refuseIf(v > 99 || told.size() == 9, -6);
            told.add(v);
            return told.size();
        });
    }

    public int clear() {
        int had = told.size();
        told.clear();
        return had;
    }

    public int lots(int n, int z, int what) {
        return ints(() -> {
            refuseIf(n < 1, -4);
            refuseIf(n > 20, -6);
            mustBe01(what);
            BigInteger seed = BigInteger.valueOf(z);
            int good = 0;
            int together = 0;
            for (int lot = 0; lot < n; lot++) {
                List<Side> drawn = new ArrayList<>();
                for (Side s : sides) {
                    seed = BigInteger.valueOf(
                        seed.multiply(BigInteger.valueOf(1664525)).add(BigInteger.valueOf(1013904223)).intValue());
                    int bits = seed.clearBit(31).intValue() & 0x7fffffff;
                    drawn.add(s.with((bits >> 8) % 9 + 1));
                }
                together += size(drawn);
                good += w(drawn) > 0 && pairs(drawn) == 0 ? 1 : 0;
            }
            return what == 0 ? good : together;
        });
    }

    private void mustBeList(int list) {
        refuseIf(list < 0 || list > 2, -1);
    }

    private int length(int list) {
        return lists[list] instanceof long[] l ? l.length : ((int[]) lists[list]).length;
    }

    private long at(int list, int i) {
        return lists[list] instanceof long[] l ? l[i] : ((int[]) lists[list])[i];
    }

    private void set(int list, int i, long v) {
        if (lists[list] instanceof long[] l) {
            l[i] = v;
        } else {
            ((int[]) lists[list])[i] = (int) v;
        }
    }

    public int list(int list, int sort, int n) {
        return ints(() -> {
            mustBeList(list);
            mustBe01(sort);
            refuseIf(n > 20, -6);
            refuseIf(n < 0, -14);
            lists[list] = sort == 0 ? new long[n] : new int[n];
            return 1;
        });
    }

    public int put(int list, int i, long v) {
        return ints(() -> {
            mustBeList(list);
            refuseIf(lists[list] == null, -11);
            refuseIf(i < 0 || i >= length(list), -13);
            set(list, i, v);
            return 1;
        });
    }

    public long look(int list, int i) {
        return longs(() -> {
            mustBeList(list);
            refuseIf(lists[list] == null, -11);
            refuseIf(i < 0 || i >= length(list), -13);
            return at(list, i);
        });
    }

    public int copy(int list, int i, int other, int j, int n) {
        return ints(() -> {
            mustBeList(list);
            mustBeList(other);
            refuseIf(lists[list] == null || lists[other] == null, -11);
            try {
                System.arraycopy(lists[list], i, lists[other], j, n);
            } catch (ArrayStoreException e) {
                throw new Refused(-12);
            } catch (IndexOutOfBoundsException e) {
                throw new Refused(-13);
            }
            return n;
        });
    }

    private long[] toldCorners() {
        List<Long> all = new ArrayList<>();
        Fr w = Fr.of(w(sides));
        for (Point p : corners(sides).subList(0, sides.size())) {
            all.add(p.e.times(w).part(0));
            all.add(p.n.times(w).part(0));
        }
        return all.stream().mapToLong(v -> v).toArray();
    }

    public int lays(int list, int i) {
        return ints(() -> {
            mustBeList(list);
            mustHaveCorners();
            refuseIf(lists[list] == null, -11);
            long place = i;
            for (long v : toldCorners()) {
                refuseIf(place < 0 || place >= length(list), -13);
                set(list, (int) place, v);
                place++;
            }
            return sides.size();
        });
    }

    public int judge(int list) {
        return ints(() -> {
            mustBeList(list);
            mustHaveCorners();
            refuseIf(lists[list] == null, -11);
            long[] due = toldCorners();
            long[] got = new long[Math.min(due.length, length(list))];
            for (int i = 0; i < got.length; i++) {
                got[i] = at(list, i);
            }
            int first = Arrays.mismatch(due, got);
            return first < 0 ? -9 : first == got.length ? 100 + first / 2 : first / 2;
        });
    }

    // ---- changes, the image, what is told

    public int undo() {
        return ints(() -> {
            refuseIf(past.isEmpty(), -3);
            sides = past.removeLast();
            return past.size();
        });
    }

    public int image() {
        taken = sides;
        return sides.size();
    }

    public int on() {
        return ints(() -> {
            refuseIf(taken == null, -3);
            sides = taken;
            past.clear();
            return sides.size();
        });
    }

    public int count(int what) {
        if (what >= 11 && what <= 16) {
            return refused[what - 10];
        }
        return switch (what) {
            case 0 -> sides.size();
            case 1 -> w(sides);
            case 2 -> letters.length();
            case 3 -> told.size();
            case 4 -> past.size();
            default -> -9;
        };
    }
}
