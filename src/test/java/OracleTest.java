import java.lang.reflect.InvocationTargetException;
import java.lang.reflect.Method;
import java.util.ArrayList;
import java.util.Arrays;
import java.util.Comparator;
import java.util.List;
import java.util.Random;

/** Seeded runs of up to 512 calls, each answer compared with the model's. */
public final class OracleTest {
    private static final int RUNS = 600;
    private static final int CALLS = 512;
    private static final int[] FAR = {Integer.MIN_VALUE, Integer.MAX_VALUE, -10000, 10000, -10, 10, 120, 256};
    private static final Method[] FACE = face();

    private final Random random;
    private final TraverseClosed program = new TraverseClosed();
    private final Model model = new Model();
    private final List<String> trail = new ArrayList<>();
    /** How far sides go: small ones make many coincidences, great ones great numbers. */
    private final int reach;
    private int calls = 0;

    private OracleTest(int seed) {
        random = new Random(seed);
        reach = new int[] {1, 2, 3, 9}[seed % 4];
    }

    public static void main(String[] args) throws ReflectiveOperationException {
        for (int seed = 0; seed < RUNS; seed++) {
            if (!new OracleTest(seed).runs(seed)) {
                System.exit(1);
            }
        }
        System.out.println(RUNS + " runs are as the model's");
    }

    private static Method[] face() {
        Method[] all = Arrays.stream(TraverseClosed.class.getDeclaredMethods())
            .filter(m -> java.lang.reflect.Modifier.isPublic(m.getModifiers())).toArray(Method[]::new);
        Arrays.sort(all, Comparator.comparing(Method::getName));
        return all;
    }

    private boolean runs(int seed) throws ReflectiveOperationException {
        while (calls < CALLS) {
            int choice = random.nextInt(100);
            boolean same = choice < 4 ? tellsText(text())
                : choice < 14 ? sameAnswer(named("side"), near(), near(), 1 + random.nextInt(reach))
                : choice < 20 ? sameAnswer(named("kind"), random.nextInt(8), random.nextInt(6), random.nextInt(10))
                : choice < 23 ? parts()
                : choice < 26 ? laid()
                : randomCall();
            if (!same) {
                System.out.println("seed " + seed + ": " + String.join(" ", trail));
                return false;
            }
        }
        return true;
    }

    private int near() {
        return random.nextInt(2 * reach + 1) - reach;
    }

    /** Everything that is asked in parts, of a random side or corner that there may be. */
    private boolean parts() throws ReflectiveOperationException {
        int i = random.nextInt(8);
        int j = random.nextInt(8);
        int v = random.nextInt(41) - 20;
        boolean same = true;
        for (int part = 0; part < 2 && same; part++) {
            same = sameAnswer(named("area"), part) && sameAnswer(named("hull"), part)
                && sameAnswer(named("outline"), part) && sameAnswer(named("corner"), i, j % 2, part)
                && sameAnswer(named("lengths"), i, j, v & 1, part) && sameAnswer(named("parcel"), i, j, part)
                && sameAnswer(named("likely"), 2 + j, random.nextInt(300), part)
                && sameAnswer(named("cut"), i, v, part + 1);
        }
        return same && sameAnswer(named("crosses")) && sameAnswer(named("cross"), i, j)
            && sameAnswer(named("turn"), i) && sameAnswer(named("lots"), 1 + j, random.nextInt(), v & 1);
    }

    /** Corners laid into a list, looked at and judged, with perhaps one of them made otherwise. */
    private boolean laid() throws ReflectiveOperationException {
        int list = random.nextInt(3);
        int n = random.nextInt(21);
        int place = random.nextInt(20);
        boolean same = sameAnswer(named("list"), list, random.nextInt(2), n)
            && sameAnswer(named("lays"), list, random.nextInt(3) == 0 ? place : 0)
            && sameAnswer(named("judge"), list);
        for (int i = 0; i < n && same; i++) {
            same = sameAnswer(named("look"), list, i);
        }
        return same && sameAnswer(named("put"), list, place, longNumber()) && sameAnswer(named("judge"), list);
    }

    private boolean randomCall() throws ReflectiveOperationException {
        Method m = FACE[random.nextInt(FACE.length)];
        if (m.getName().equals("letter") && random.nextInt(4) > 0) {
            return sameAnswer(named("of"), random.nextInt(8), random.nextInt(8));
        }
        if (m.getName().equals("gone") && random.nextInt(2) > 0) {
            return sameAnswer(named("order"), random.nextInt(8));
        }
        Object[] args = new Object[m.getParameterCount()];
        for (int i = 0; i < args.length; i++) {
            args[i] = m.getParameterTypes()[i] == long.class ? (Object) longNumber() : (Object) number(m.getName());
        }
        return sameAnswer(m, args);
    }

    private int number(String name) {
        int choice = random.nextInt(100);
        if (choice < 3) {
            return FAR[random.nextInt(FAR.length)];
        }
        if (choice < 6) {
            return -1 - random.nextInt(9);
        }
        if (name.equals("letter")) {
            return random.nextInt(256);
        }
        if (choice < 15) {
            return random.nextInt(25);
        }
        if (choice < 17) {
            return random.nextInt(120);
        }
        return random.nextInt(choice < 60 ? 2 : 8);
    }

    private long longNumber() {
        return random.nextInt(3) == 0 ? random.nextLong() : random.nextInt(100) - 50;
    }

    private String text() {
        StringBuilder text = new StringBuilder();
        int statements = random.nextInt(6);
        for (int i = 0; i < statements; i++) {
            text.append(statement());
        }
        if (text.length() > 0 && random.nextInt(4) == 0) {
            int at = random.nextInt(text.length());
            switch (random.nextInt(3)) {
                case 0 -> text.setLength(at);
                case 1 -> text.deleteCharAt(at);
                default -> text.insert(at, "sikdr0123456789,:;=*-x".charAt(random.nextInt(22)));
            }
        }
        return text.toString();
    }

    private String statement() {
        String ending = near() + "," + near() + "*" + random.nextInt(reach + 1) + ";";
        return switch (random.nextInt(10)) {
            case 0 -> "r;";
            case 1 -> "d" + random.nextInt(8) + ";";
            case 2, 3 -> "k" + random.nextInt(6) + "=" + random.nextInt(6) + "," + random.nextInt(10) + ";";
            case 4 -> "k" + random.nextInt(10) + "=" + random.nextInt(10) + "," + random.nextInt(10) + ";";
            case 5, 6 -> "i" + random.nextInt(5) + ":" + ending;
            default -> "s" + ending;
        };
    }

    private boolean tellsText(String text) throws ReflectiveOperationException {
        boolean same = true;
        for (int i = 0; i < text.length() && same; i++) {
            same = sameAnswer(named("letter"), (int) text.charAt(i));
        }
        return same && sameAnswer(named("tells")) && sameAnswer(named("count"), 0);
    }

    private static Method named(String name) {
        for (Method m : FACE) {
            if (m.getName().equals(name)) {
                return m;
            }
        }
        throw new IllegalArgumentException(name);
    }

    private boolean sameAnswer(Method m, Object... args) throws ReflectiveOperationException {
        if (calls >= CALLS) {
            return true;
        }
        calls++;
        Object want = Model.class.getMethod(m.getName(), m.getParameterTypes()).invoke(model, args);
        Object got;
        try {
            got = m.invoke(program, args);
        } catch (InvocationTargetException e) {
            got = e.getCause();
        }
        trail.add(m.getName() + Arrays.toString(args) + "=" + got);
        if (!want.equals(got)) {
            System.out.println(m.getName() + Arrays.toString(args) + " answered " + got + ", the model's is " + want);
            return false;
        }
        return true;
    }
}
