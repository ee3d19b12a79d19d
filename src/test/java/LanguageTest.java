import java.io.DataInputStream;
import java.io.IOException;
import java.io.InputStream;
import java.lang.management.ManagementFactory;
import java.util.ArrayList;
import java.util.List;
import java.util.Set;
import java.util.TreeSet;

/** What can be seen of LANGUAGE.md in the compiled class: its library (rule 4), its size (rule 11), its room (rule 12). */
public final class LanguageTest {
    /** Rule 4 and rule 6, and what the compiler itself calls for enums and records. */
    private static final Set<String> LIBRARY = Set.of(
        "java/lang/Object.<init>", "java/lang/Record.<init>", "java/lang/Enum.<init>", "java/lang/Enum.valueOf",
        "java/lang/Enum.ordinal", "java/lang/System.arraycopy", "java/util/Arrays.copyOf", "java/util/Arrays.copyOfRange",
        "java/util/Arrays.fill", "java/lang/Integer.valueOf", "java/lang/Integer.intValue", "java/util/Iterator.hasNext",
        "java/util/Iterator.next", "java/lang/Iterable.iterator", "java/lang/Comparable.compareTo");
    private static final String TEXTS = "java/lang/(String\\.(<init>|length|charAt|isEmpty|equals|indexOf|substring|toCharArray)"
        + "|StringBuilder\\.(<init>|append|charAt|setCharAt|setLength|deleteCharAt|reverse|length|toString))";
    private static final String LISTS =
        "java/util/(ArrayList|List)\\.(<init>|add|get|set|remove|size|isEmpty|clear|iterator|of)";
    private static final String NUMBERS = "java/lang/(Math|Integer|Long)\\.(abs|max|min|compare|bitCount|floorDiv|floorMod|signum"
        + "|sum|numberOf(Leading|Trailing)Zeros|highestOneBit|lowestOneBit|rotateLeft|rotateRight|reverse)";
    private static final String EXCEPTIONS = "java/(lang/(IllegalState|IllegalArgument|IndexOutOfBounds|Arithmetic"
        + "|UnsupportedOperation|Runtime)|util/NoSuchElement)Exception\\.<init>";
    private static final int CALLS = 512;
    /** Some 600,000 objects, of 32 bytes each. */
    private static final long ROOM_OF_A_RUN = 600_000 * 32;

    private final List<Object> pool = new ArrayList<>();

    public static void main(String[] args) throws IOException {
        Check.about("LANGUAGE.md");
        List<Class<?>> types = new ArrayList<>(List.of(DesertIsCounted.class.getDeclaredClasses()));
        types.add(DesertIsCounted.class);
        Check.due("twelve classes at most", 1, types.size() <= 12 ? 1 : 0);
        for (Class<?> type : types) {
            Check.due(type.getName() + ": twenty fields at most beside constants", 1, fieldsOf(type) <= 20 ? 1 : 0);
            Check.due(type.getName() + ": calls outside the library", "[]", new LanguageTest().strangers(type).toString());
        }
        runOf(CALLS);
        long before = allocated();
        runOf(CALLS);
        long room = allocated() - before;
        Check.due("bytes in one run (" + room + ") have room", 1, room < ROOM_OF_A_RUN ? 1 : 0);
        Check.end();
    }

    private static long fieldsOf(Class<?> type) {
        return List.of(type.getDeclaredFields()).stream()
            .filter(field -> !java.lang.reflect.Modifier.isStatic(field.getModifiers())).count();
    }

    private static long allocated() {
        return ((com.sun.management.ThreadMXBean) ManagementFactory.getThreadMXBean())
            .getThreadAllocatedBytes(Thread.currentThread().getId());
    }

    /** The dearest calls of the class, and rows made anew, on one object. */
    private static void runOf(int calls) {
        DesertIsCounted x = new DesertIsCounted();
        for (int c = 0; c < 6; c++) {
            x.keep(0, 1, c, 9);
            x.comes(0, c, c % 2);
        }
        x.blows(9);
        for (int i = 0; i < calls - 13; i += 13) {
            x.row(0, 1, 100);
            x.put(0, 0, -32768);
            x.put(0, 1, 17);
            x.howMany(0, i % 10, i % 3);
            x.whatIs(0, i % 6, i % 2);
            x.storm(i % 10, 7, 20, 0);
            x.bestWind(60, 0);
            x.begin(i % 6, 60);
            x.deserts(20, i, 0);
            x.two(0, 1);
            x.desert(0);
            x.image();
            x.restore();
        }
    }

    /** What the class file names of methods that are neither its own nor of the library, and calls that are made when it runs. */
    private TreeSet<String> strangers(Class<?> type) throws IOException {
        TreeSet<String> strangers = new TreeSet<>();
        try (InputStream file = type.getResourceAsStream("/" + type.getName() + ".class")) {
            readPool(new DataInputStream(file));
        }
        for (Object entry : pool) {
            if (entry instanceof int[] link) {
                String owner = nameOfClass(link[0]);
                String name = owner + "." + nameOf(link[1]);
                if (!owner.startsWith("DesertIsCounted") && !name.matches("\\[.*\\.clone") && !isOfTheLibrary(name)) {
                    strangers.add(name);
                }
            } else if ("a call linked when it runs".equals(entry)) {
                strangers.add("invokedynamic");
            }
        }
        return strangers;
    }

    private static boolean isOfTheLibrary(String name) {
        return LIBRARY.contains(name) || name.matches(TEXTS) || name.matches(LISTS) || name.matches(NUMBERS)
            || name.matches(EXCEPTIONS);
    }

    private String nameOfClass(int place) {
        return (String) pool.get((Integer) pool.get(place));
    }

    private String nameOf(int place) {
        return (String) pool.get((Integer) pool.get(place));
    }

    /** Each entry: a text; the place of its name; for methods the places of class and name; null for what does not matter. */
    private void readPool(DataInputStream in) throws IOException {
        in.readInt();
        in.readInt();
        int size = in.readUnsignedShort();
        pool.add(null);
        while (pool.size() < size) {
            int tag = in.readUnsignedByte();
            switch (tag) {
                case 1 -> pool.add(in.readUTF());
                case 7 -> pool.add(in.readUnsignedShort());
                case 12 -> {
                    pool.add(in.readUnsignedShort());
                    in.readUnsignedShort();
                }
                case 10, 11 -> pool.add(new int[] {in.readUnsignedShort(), in.readUnsignedShort()});
                case 17, 18 -> {
                    in.readInt();
                    pool.add("a call linked when it runs");
                }
                case 3, 4, 9 -> {
                    in.readInt();
                    pool.add(null);
                }
                case 5, 6 -> {
                    in.readLong();
                    pool.add(null);
                    pool.add(null);
                }
                case 15 -> {
                    in.readUnsignedByte();
                    in.readUnsignedShort();
                    pool.add(null);
                }
                default -> {
                    in.readUnsignedShort();
                    pool.add(null);
                }
            }
        }
    }
}
