import java.io.DataInputStream;
import java.io.IOException;
import java.io.InputStream;
import java.util.Set;
import java.util.TreeSet;

/** What a compiled class names outside of itself, read from its pool of constants. */
final class Compiled {
    final Set<String> methods = new TreeSet<>();
    final Set<String> fields = new TreeSet<>();
    /** Lambdas, method references and texts joined by + are all bound at the first call. */
    boolean bindsCalls = false;

    private final int[] kinds;
    private final int[] firsts;
    private final int[] seconds;
    private final String[] texts;

    static Compiled of(Class<?> one) throws IOException {
        String file = one.getName() + ".class";
        try (InputStream in = one.getClassLoader().getResourceAsStream(file)) {
            return new Compiled(new DataInputStream(in));
        }
    }

    private Compiled(DataInputStream in) throws IOException {
        in.readLong();
        int many = in.readUnsignedShort();
        kinds = new int[many];
        firsts = new int[many];
        seconds = new int[many];
        texts = new String[many];
        for (int at = 1; at < many; at++) {
            readConstant(in, at);
            if (kinds[at] == 5 || kinds[at] == 6) {
                at++;
            }
        }
        for (int at = 1; at < many; at++) {
            keep(at);
        }
    }

    private void readConstant(DataInputStream in, int at) throws IOException {
        kinds[at] = in.readUnsignedByte();
        switch (kinds[at]) {
            case 1: texts[at] = in.readUTF(); break;
            case 3: case 4: in.readInt(); break;
            case 5: case 6: in.readLong(); break;
            case 7: case 8: case 16: case 19: case 20: firsts[at] = in.readUnsignedShort(); break;
            case 15: in.readUnsignedByte(); firsts[at] = in.readUnsignedShort(); break;
            case 9: case 10: case 11: case 12: case 17: case 18:
                firsts[at] = in.readUnsignedShort();
                seconds[at] = in.readUnsignedShort();
                break;
            default: throw new IOException("a constant of kind " + kinds[at]);
        }
    }

    private void keep(int at) {
        if (kinds[at] == 17 || kinds[at] == 18) {
            bindsCalls = true;
        } else if (kinds[at] == 9) {
            fields.add(named(at));
        } else if (kinds[at] == 10 || kinds[at] == 11) {
            methods.add(named(at));
        }
    }

    private String named(int at) {
        int pair = seconds[at];
        return texts[firsts[firsts[at]]] + "." + texts[firsts[pair]] + texts[seconds[pair]];
    }
}
