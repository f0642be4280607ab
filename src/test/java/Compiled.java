import java.io.DataInputStream;
import java.io.IOException;
import java.io.InputStream;
import java.util.Set;
import java.util.TreeSet;

/** What a compiled class names: "java/lang/Math.abs", read from the pool of constants of its file. */
final class Compiled {
    private static final int MAGIC = 0xCAFEBABE;

    private final Object[] constants;
    private final int[] tags;

    private Compiled(DataInputStream in) throws IOException {
        if (in.readInt() != MAGIC) {
            throw new IOException("no class file");
        }
        in.readInt();
        int size = in.readUnsignedShort();
        constants = new Object[size];
        tags = new int[size];
        for (int i = 1; i < size; i++) {
            tags[i] = in.readUnsignedByte();
            constants[i] = constant(in, tags[i]);
            // The format gives longs and doubles two numbers each.
            if (tags[i] == 5 || tags[i] == 6) {
                i++;
            }
        }
    }

    static Compiled of(Class<?> one) throws IOException {
        String name = one.getName() + ".class";
        try (InputStream in = one.getClassLoader().getResourceAsStream(name)) {
            if (in == null) {
                throw new IOException("no " + name);
            }
            return new Compiled(new DataInputStream(in));
        }
    }

    private static Object constant(DataInputStream in, int tag) throws IOException {
        switch (tag) {
            case 1:
                return in.readUTF();
            case 3:
            case 4:
                return in.readInt();
            case 5:
            case 6:
                return in.readLong();
            case 7:
            case 8:
            case 16:
            case 19:
            case 20:
                return new int[] {in.readUnsignedShort()};
            case 15:
                return new int[] {in.readUnsignedByte(), in.readUnsignedShort()};
            default:
                return new int[] {in.readUnsignedShort(), in.readUnsignedShort()};
        }
    }

    private String text(int i) {
        return (String) constants[i];
    }

    private int part(int i, int which) {
        return ((int[]) constants[i])[which];
    }

    /** Fields and methods that it uses, of its own and of others. */
    Set<String> uses() {
        Set<String> all = new TreeSet<>();
        for (int i = 1; i < tags.length; i++) {
            if (tags[i] >= 9 && tags[i] <= 11) {
                String owner = text(part(part(i, 0), 0));
                all.add(owner + "." + text(part(part(i, 1), 0)));
            }
        }
        return all;
    }

    /** Lambdas, method references and texts joined by + come by calls that are bound when they run. */
    boolean bindsCalls() {
        for (int tag : tags) {
            if (tag == 15 || tag == 17 || tag == 18) {
                return true;
            }
        }
        return false;
    }
}
