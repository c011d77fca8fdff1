import java.io.DataInputStream;
import java.io.IOException;
import java.util.Set;
import java.util.TreeSet;

/** What a compiled class names of other classes: read from its table of constants. */
final class ClassFile {
    private static final int UTF8 = 1;
    private static final int LONG = 5;
    private static final int DOUBLE = 6;
    private static final int METHOD_HANDLE = 15;

    private final int[] tags;
    private final int[] firsts;
    private final int[] seconds;
    private final String[] texts;

    ClassFile(Class<?> one) throws IOException {
        String file = "/" + one.getName() + ".class";
        try (DataInputStream in = new DataInputStream(one.getResourceAsStream(file))) {
            in.skipBytes(8);
            int size = in.readUnsignedShort();
            tags = new int[size];
            firsts = new int[size];
            seconds = new int[size];
            texts = new String[size];
            for (int at = 1; at < size; at += isWide(tags[at]) ? 2 : 1) {
                read(in, at);
            }
        }
    }

    private static boolean isWide(int tag) {
        return tag == LONG || tag == DOUBLE;
    }

    private void read(DataInputStream in, int at) throws IOException {
        tags[at] = in.readUnsignedByte();
        switch (tags[at]) {
            case UTF8:
                texts[at] = in.readUTF();
                break;
            case LONG, DOUBLE:
                in.skipBytes(8);
                break;
            case METHOD_HANDLE:
                in.skipBytes(3);
                break;
            case 7, 8, 16, 19, 20:
                firsts[at] = in.readUnsignedShort();
                break;
            default:
                firsts[at] = in.readUnsignedShort();
                seconds[at] = in.readUnsignedShort();
        }
    }

    boolean hasDynamicCalls() {
        for (int tag : tags) {
            if (tag == 17 || tag == 18) {
                return true;
            }
        }
        return false;
    }

    /** Fields and methods of classes outside the program, as class.name and what it takes and answers. */
    Set<String> namedOutside() {
        Set<String> named = new TreeSet<>();
        for (int at = 1; at < tags.length; at++) {
            boolean isMember = tags[at] >= 9 && tags[at] <= 11;
            if (isMember && !ownerOf(at).startsWith("WordChain")) {
                int nameAndType = seconds[at];
                named.add(ownerOf(at) + "." + texts[firsts[nameAndType]] + texts[seconds[nameAndType]]);
            }
        }
        return named;
    }

    private String ownerOf(int member) {
        return texts[firsts[firsts[member]]];
    }
}
