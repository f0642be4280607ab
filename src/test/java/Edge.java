import java.io.IOException;
import java.util.ArrayList;
import java.util.List;
import java.util.Set;
import java.util.TreeSet;
import java.util.function.Supplier;
import java.util.function.ToLongFunction;

/**
 * One sentence of the document after another that names a boundary, and the calls on both its sides.
 * What a call leaves behind is seen by a twin: an object made alike on which it was not called.
 */
final class Edge {
    static final long R = Due.REFUSED;
    static final int MIN = Integer.MIN_VALUE;
    static final int MAX = Integer.MAX_VALUE;
    private static final int FIRST_COUNT = 11;
    private static final int LAST_COUNT = 16;

    private final Due due = new Due();
    private final Document document;
    private final List<Set<String>> numbersQuoted = new ArrayList<>();
    private int part = 0;
    private String sentence = "";
    private int checks = 0;
    private int sentences = 0;

    Edge() throws IOException {
        document = new Document();
        for (int i = 0; i <= Document.PROMISES; i++) {
            numbersQuoted.add(new TreeSet<>());
        }
    }

    /** The sentence that the next checks are about; it must stand so in that part of the document. */
    void of(int promise, String words) {
        part = promise;
        sentence = words;
        checks = 0;
        sentences++;
        due.about("edges");
        due.isTrue(Document.name(promise) + " says: " + words, document.says(promise, words));
        numbersQuoted.get(promise).addAll(Document.numbersIn(words));
        due.about(Document.name(promise) + " \"" + words + "\"");
    }

    private String check() {
        checks++;
        return "check " + checks;
    }

    void is(long got, long want) {
        due.is(check(), got, want);
    }

    /** An object of sides told in letters, with letters, a row, lists, changes and an image besides. */
    static TraverseClosed made(String text) {
        TraverseClosed x = new TraverseClosed();
        tellAll(x, text);
        x.image();
        x.turned();
        x.turned();
        x.letter('r');
        x.letter(';');
        x.row(15);
        x.row(30);
        x.list(0, 0, 9);
        x.put(0, 2, 1L << 40);
        x.put(0, 8, -7);
        x.list(1, 1, 3);
        x.put(1, 1, 5);
        return x;
    }

    /** The same, but that no letters wait. */
    static TraverseClosed silent(String text) {
        TraverseClosed x = made(text);
        x.tells();
        x.undo();
        return x;
    }

    /** Texts of more than 120 letters come by several calls of tells(). */
    static void tellAll(TraverseClosed x, String text) {
        int from = 0;
        while (from < text.length()) {
            int to = text.lastIndexOf(';', Math.min(text.length(), from + 120) - 1) + 1;
            if (Due.tell(x, text.substring(from, to)) <= 0) {
                throw new IllegalArgumentException(text.substring(from, to));
            }
            from = to;
        }
    }

    /** A call that is answered, whatever it changes. */
    void does(String text, ToLongFunction<TraverseClosed> call, long want) {
        due.is(check(), call.applyAsLong(made(text)), want);
    }

    /** A call that is answered and changes nothing. */
    void reads(String text, ToLongFunction<TraverseClosed> call, long want) {
        leaves(() -> made(text), call, want, 0);
    }

    /** A fraction told by two calls, part 0 and part 1, which change nothing. */
    void readsFraction(String text, Fraction call, long above, long below) {
        reads(text, x -> call.part(x, 0), above);
        reads(text, x -> call.part(x, 1), below);
    }

    interface Fraction {
        long part(TraverseClosed x, int part);
    }

    void refuses(String text, ToLongFunction<TraverseClosed> call, long want) {
        refuses(() -> made(text), call, want);
    }

    /** A call that is refused: nothing changes but how many there were, and not that from -11 on. */
    void refuses(Supplier<TraverseClosed> maker, ToLongFunction<TraverseClosed> call, long want) {
        long refusal = want > 0 ? R - want : want;
        leaves(maker, call, want, refusal >= -6 ? (int) (10 - refusal) : 0);
    }

    /** A text that comes whole. */
    void tells(String text, String told, long want) {
        due.is(check(), Due.tell(silent(text), told), want);
    }

    /** A text with a FAULT: nothing of it comes, no letters are left, and no REFUSAL is counted. */
    void faults(String text, String told, long want) {
        leaves(() -> silent(text), x -> Due.tell(x, told), want, 0);
    }

    /** The answer, and that nothing is otherwise than with the twin but one count, if one is told. */
    private void leaves(Supplier<TraverseClosed> maker, ToLongFunction<TraverseClosed> call, long want, int counted) {
        TraverseClosed x = maker.get();
        TraverseClosed twin = maker.get();
        String name = check();
        due.is(name, call.applyAsLong(x), want);
        for (int what = FIRST_COUNT; what <= LAST_COUNT; what++) {
            due.is(name + ", count(" + what + ") more", x.count(what) - twin.count(what), what == counted ? 1 : 0);
        }
        List<Long> seen = allThatIsSeen(x);
        List<Long> seenOfTwin = allThatIsSeen(twin);
        due.isTrue(name + " leaves " + seen + ", due is " + seenOfTwin, seen.equals(seenOfTwin));
    }

    /** What an object shows, then what its letters, changes and image show; it is not used behind that. */
    private static List<Long> allThatIsSeen(TraverseClosed x) {
        List<Long> seen = new ArrayList<>();
        for (int list = 0; list < 3; list++) {
            for (int i = 0; i < 20 && x.look(list, i) != R + 13; i++) {
                seen.add(x.look(list, i));
            }
            seen.add(-1L);
        }
        seen.add((long) x.count(2));
        seen.add((long) x.count(3));
        for (int i = 0; i < x.count(0); i++) {
            seen.add((long) x.whatIs(i, 0));
        }
        addSides(x, seen);
        seen.add((long) x.tells());
        addSides(x, seen);
        for (int i = 0; i < 9; i++) {
            seen.add((long) x.undo());
            addSides(x, seen);
        }
        seen.add((long) x.on());
        addSides(x, seen);
        return seen;
    }

    private static void addSides(TraverseClosed x, List<Long> seen) {
        seen.add((long) x.count(4));
        for (int i = 0; i < x.count(0); i++) {
            for (int what = 0; what <= 4; what++) {
                seen.add(x.of(i, what));
            }
        }
    }

    /** Every number below 0 that "Terms" or a promise names must stand in a sentence quoted from there. */
    void end() {
        due.about("edges");
        for (int promise = 0; promise <= Document.PROMISES; promise++) {
            Set<String> left = document.numbersBelowZero(promise);
            left.removeAll(numbersQuoted.get(promise));
            due.isTrue(Document.name(promise) + " has no test of " + left, left.isEmpty());
        }
        System.out.println(sentences + " sentences");
        due.end();
    }
}
