import java.lang.reflect.InvocationTargetException;
import java.lang.reflect.Method;
import java.lang.reflect.Modifier;
import java.util.ArrayList;
import java.util.Arrays;
import java.util.Comparator;
import java.util.List;
import java.util.Map;
import java.util.Random;
import java.util.TreeMap;

/** Runs of calls that a seed tells, each answer compared with that of Model, which is written another way. */
public final class ModelTest {
    private static final int RUNS = 400;
    private static final int CALLS = 160;
    private static final int[] EDGES = {-2, -1, 0, 1, 2, 5, 7, 8, 9, 10, 60, 61, 99, 100, 101, 999, 1000,
        Integer.MIN_VALUE, Integer.MAX_VALUE};

    private final Random chance;
    private final DesertIsCounted real = new DesertIsCounted();
    private final Model model = new Model();
    private final StringBuilder told = new StringBuilder();

    private ModelTest(int seed) {
        chance = new Random(seed);
    }

    public static void main(String[] args) {
        Check.about("as the model answers");
        Map<String, Integer> refusals = new TreeMap<>();
        List<Method> calls = new ArrayList<>();
        for (Method method : DesertIsCounted.class.getDeclaredMethods()) {
            if (Modifier.isPublic(method.getModifiers())) {
                calls.add(method);
            }
        }
        calls.sort(Comparator.comparing(Method::getName));
        for (int seed = 0; seed < RUNS; seed++) {
            new ModelTest(seed).run(calls, refusals);
        }
        Check.due("each refusal came up", "[-1, -11, -12, -13, -14, -15, -2, -3, -4, 1000000001, "
            + "IllegalArgumentException, IllegalStateException]", refusals.keySet().toString());
        Check.end();
    }

    private void run(List<Method> calls, Map<String, Integer> refusals) {
        // Some runs are calm: with numbers mostly in range they get far.
        int wild = chance.nextInt(4);
        begin();
        for (int i = 0; i < CALLS; i++) {
            Method method = calls.get(chance.nextInt(calls.size()));
            String answer = method.getName().equals("desert") && chance.nextInt(5) > 0
                ? textAnswer() : call(method.getName(), arguments(method, wild));
            if (answer.startsWith("Illegal") || answer.equals("1000000001") || answer.matches("-([1-4]|1[1-5])")) {
                refusals.merge(answer, 1, Integer::sum);
            }
        }
    }

    private void begin() {
        int corporals = chance.nextInt(7);
        for (int c = 0; c < corporals; c++) {
            call("keep", 0, 1, chance.nextInt(8), chance.nextInt(10));
            call("comes", 0, chance.nextInt(10), chance.nextInt(2));
        }
        int scale = chance.nextInt(3);
        for (int dip = 0; dip < 10 && scale > 0; dip++) {
            call("fills", dip, chance.nextInt(scale == 1 ? 40 : 1000));
        }
        call("blows", chance.nextInt(3) == 0 ? 0 : chance.nextInt(19) - 9);
        truths();
    }

    /** Rows that tell what is so, and what is nearly so, so that what is asked by rows has something to find. */
    private void truths() {
        int dip = chance.nextInt(10);
        int c = chance.nextInt(6);
        int length = 1 + chance.nextInt(5);
        int sort = 1 + chance.nextInt(2);
        for (int d = 3; d <= 5; d++) {
            call("row", d, sort, length);
            for (int i = 0; i < length; i++) {
                long so = d == 3 ? model.dipThen(dip, i, 1) : d == 4 ? model.corporalThen(c, i, 1) : booksThen(i);
                int v = chance.nextInt(4) == 0 ? (sort == 1 ? Short.MIN_VALUE : Integer.MIN_VALUE)
                    : (int) so + (chance.nextInt(12) == 0 ? 1 : 0);
                call("put", d, i, v);
            }
        }
        for (int what = 0; what <= 2; what++) {
            call("howMany", 3, dip, what);
            call("whatIs", 4, c, what);
        }
        call("judge", 5);
        call("forged", 3);
    }

    private long booksThen(int n) {
        long books = 0;
        for (int c = 0; c < model.count(0); c++) {
            books += model.corporalThen(c, n, 1);
        }
        return books;
    }

    private String textAnswer() {
        String text = text();
        if (chance.nextInt(3) == 0 && !text.isEmpty()) {
            int place = chance.nextInt(text.length());
            text = text.substring(0, place) + "cgwerfd;0189x".charAt(chance.nextInt(13))
                + text.substring(place + chance.nextInt(2));
        }
        text = text.substring(0, Math.min(20, text.length()));
        call("row", 6, 0, text.length());
        for (int i = 0; i < text.length(); i++) {
            call("put", 6, i, text.charAt(i));
        }
        return call("desert", 6);
    }

    private String text() {
        StringBuilder text = new StringBuilder();
        int statements = 1 + chance.nextInt(4);
        for (int i = 0; i < statements; i++) {
            char letter = "cgwerfd".charAt(chance.nextInt(7));
            text.append(letter);
            switch (letter) {
                case 'c' -> text.append(chance.nextInt(9)).append(digit()).append(digit()).append(chance.nextInt(2));
                case 'g' -> text.append(digit()).append(digit()).append(digit()).append(digit());
                case 'd' -> text.append(chance.nextInt(7)).append(digit());
                case 'f' -> { }
                default -> text.append(digit());
            }
            text.append(';');
        }
        return text.toString();
    }

    private int digit() {
        return chance.nextInt(10);
    }

    private int[] arguments(Method method, int wild) {
        int[] arguments = new int[method.getParameterCount()];
        for (int i = 0; i < arguments.length; i++) {
            int kind = chance.nextInt(40);
            if (kind < wild * 3) {
                arguments[i] = EDGES[chance.nextInt(EDGES.length)];
            } else {
                arguments[i] = plain(method.getName(), i, arguments);
            }
        }
        return arguments;
    }

    private int plain(String name, int i, int[] before) {
        switch (name + i) {
            case "fills1":
                return chance.nextInt(chance.nextBoolean() ? 30 : 1000);
            case "blows0":
                return chance.nextInt(19) - 9;
            case "days0":
                return 1 + chance.nextInt(chance.nextBoolean() ? 10 : 60);
            case "corporalThen1": case "dipThen1": case "dipsDone0": case "line0": case "treaty0": case "bestWind0":
            case "send1": case "idle0": case "slowest0": case "lost0": case "heap0": case "begin1":
                return chance.nextInt(chance.nextBoolean() ? 8 : 61);
            case "storm1":
                return chance.nextInt(6);
            case "storm2":
                return 2 + chance.nextInt(19);
            case "deserts0":
                return 1 + chance.nextInt(20);
            case "deserts1":
                return chance.nextInt();
            case "ends0":
                return chance.nextInt(11) - 1;
            case "meet1": case "two1":
                return chance.nextInt(6);
            case "keep2": case "howMany0": case "whatIs0": case "judge0": case "forged0": case "desert0":
                return chance.nextInt(8);
            case "row2": case "copy4":
                return chance.nextInt(8);
            case "row1":
                return chance.nextInt(3);
            case "put2":
                return chance.nextInt(5) == 0 ? EDGES[chance.nextInt(EDGES.length)] : chance.nextInt(300);
            case "count0": case "corporal1":
                return chance.nextInt(7);
            default:
                return small(name, i);
        }
    }

    private int small(String name, int i) {
        boolean part = name.equals("mean") || name.equals("even") || name.equals("comes") && i == 2
            || name.equals("storm") && i == 3 || name.equals("keep") && i == 1 || name.equals("whatIs") && i == 2
            || name.matches("corporalThen|dipThen|send|deserts") && i == 2 || name.matches("bestWind|heap") && i == 1;
        if (part) {
            return chance.nextInt(2);
        }
        if (name.matches("dip|howMany") && i > 0) {
            return chance.nextInt(name.equals("dip") || i == 2 ? 3 : 10);
        }
        if (name.matches("corporal|corporalThen|rests|moves|meet|two|send|begin|whatIs") && i < 2) {
            return chance.nextInt(name.equals("moves") && i == 1 ? 10 : 6);
        }
        return chance.nextInt(name.matches("copy|put|element") && i % 2 == 1 ? 5 : 8);
    }

    private String call(String name, int... arguments) {
        String got = answer(real, name, arguments);
        String due = answer(model, name, arguments);
        String call = name + Arrays.toString(arguments);
        told.append(call).append('=').append(got).append(' ');
        if (!got.equals(due)) {
            Check.due(call + " behind " + told, due, got);
            Check.end();
        }
        Check.due(call, due, got);
        return got;
    }

    private static String answer(Object of, String name, int[] arguments) {
        Class<?>[] types = new Class<?>[arguments.length];
        Object[] given = new Object[arguments.length];
        for (int i = 0; i < arguments.length; i++) {
            types[i] = int.class;
            given[i] = arguments[i];
        }
        try {
            return String.valueOf(of.getClass().getDeclaredMethod(name, types).invoke(of, given));
        } catch (InvocationTargetException e) {
            return e.getCause().getClass().getSimpleName();
        } catch (ReflectiveOperationException e) {
            throw new IllegalStateException(e);
        }
    }
}
