import java.io.DataInputStream;
import java.io.IOException;
import java.io.InputStream;
import java.util.Arrays;
import java.util.HashSet;
import java.util.Set;
import java.util.TreeSet;

/**
 * Rule 4 of LANGUAGE.md: what the compiled class calls of the library, read from its tables of constants. LISTED has of
 * that rule what the class uses; if it comes to use more of it, a line is added here.
 */
public final class LibraryTest {
    private static final Set<String> LISTED = new HashSet<>(Arrays.asList(
            "java/lang/Object.<init>()V",
            "java/lang/Math.max(II)I", "java/lang/Math.min(II)I",
            "java/lang/System.arraycopy(Ljava/lang/Object;ILjava/lang/Object;II)V",
            "java/lang/String.length()I", "java/lang/String.charAt(I)C", "java/lang/String.isEmpty()Z",
            "java/lang/String.substring(II)Ljava/lang/String;",
            "java/lang/StringBuilder.<init>()V", "java/lang/StringBuilder.length()I",
            "java/lang/StringBuilder.charAt(I)C", "java/lang/StringBuilder.setLength(I)V",
            "java/lang/StringBuilder.toString()Ljava/lang/String;",
            "java/lang/StringBuilder.append(C)Ljava/lang/StringBuilder;",
            "java/lang/StringBuilder.append(I)Ljava/lang/StringBuilder;",
            "java/lang/StringBuilder.append(Ljava/lang/String;)Ljava/lang/StringBuilder;",
            "java/util/ArrayList.<init>()V", "java/util/ArrayList.size()I", "java/util/ArrayList.isEmpty()Z",
            "java/util/ArrayList.clear()V", "java/util/ArrayList.get(I)Ljava/lang/Object;",
            "java/util/ArrayList.remove(I)Ljava/lang/Object;", "java/util/ArrayList.add(Ljava/lang/Object;)Z",
            "java/util/ArrayList.add(ILjava/lang/Object;)V",
            "java/util/ArrayList.set(ILjava/lang/Object;)Ljava/lang/Object;"));

    // What javac itself writes for an enum and its values().
    private static final Set<String> OF_ENUMS = new HashSet<>(Arrays.asList(
            "java/lang/Enum.<init>(Ljava/lang/String;I)V",
            "java/lang/Enum.valueOf(Ljava/lang/Class;Ljava/lang/String;)Ljava/lang/Enum;"));

    private static final String FAULT = "java/(lang/(IllegalState|IllegalArgument|IndexOutOfBounds|Arithmetic"
            + "|UnsupportedOperation)|util/NoSuchElement)Exception\\.<init>\\(Ljava/lang/String;\\)V";

    private LibraryTest() {
    }

    public static void main(String[] args) throws IOException {
        TreeSet<String> calls = callsOf(ButtonRegistry.class);
        for (Class<?> inside : ButtonRegistry.class.getDeclaredClasses()) {
            calls.addAll(callsOf(inside));
        }
        Check.same("calls of the library are found", true, calls.contains("java/util/ArrayList.size()I"));
        for (String call : calls) {
            Check.same(call + " is listed", true,
                    LISTED.contains(call) || OF_ENUMS.contains(call) || call.matches(FAULT));
        }
        Check.finish();
    }

    private static TreeSet<String> callsOf(Class<?> type) throws IOException {
        try (InputStream file = type.getResourceAsStream(type.getName() + ".class");
                DataInputStream in = new DataInputStream(file)) {
            in.skipBytes(8);
            int count = in.readUnsignedShort();
            String[] texts = new String[count];
            int[] kinds = new int[count];
            int[] firsts = new int[count];
            int[] seconds = new int[count];
            for (int i = 1; i < count; i++) {
                kinds[i] = in.readUnsignedByte();
                switch (kinds[i]) {
                    case 1 -> texts[i] = in.readUTF();
                    case 3, 4 -> in.readInt();
                    case 5, 6 -> {
                        in.readLong();
                        i++;
                    }
                    case 7, 8, 16, 19, 20 -> firsts[i] = in.readUnsignedShort();
                    case 15 -> {
                        in.readUnsignedByte();
                        firsts[i] = in.readUnsignedShort();
                    }
                    default -> {
                        firsts[i] = in.readUnsignedShort();
                        seconds[i] = in.readUnsignedShort();
                    }
                }
            }
            return calls(texts, kinds, firsts, seconds);
        }
    }

    /** The methods of other classes that the table names; a dynamic call (a lambda, texts joined by +) has no class. */
    private static TreeSet<String> calls(String[] texts, int[] kinds, int[] firsts, int[] seconds) {
        TreeSet<String> calls = new TreeSet<>();
        for (int i = 1; i < kinds.length; i++) {
            int name = seconds[i];
            String call = kinds[i] >= 10 && kinds[i] <= 11 || kinds[i] >= 17 && kinds[i] <= 18
                    ? texts[firsts[name]] + texts[seconds[name]] : "";
            if (kinds[i] == 17 || kinds[i] == 18) {
                calls.add("dynamic " + call);
            } else if (!call.isEmpty()) {
                String owner = texts[firsts[firsts[i]]];
                if (!owner.matches("\\[*L?ButtonRegistry.*")) {
                    calls.add(owner + "." + call);
                }
            }
        }
        return calls;
    }
}
