import java.lang.reflect.InvocationTargetException;
import java.lang.reflect.Method;
import java.lang.reflect.Modifier;
import java.util.Map;
import java.util.TreeMap;

/** One object and the calls on it, written as "fills(0, 999)"; 512 at most, since what later calls answer is free. */
final class Run {
    private static final int MOST_CALLS = 512;
    private static final Map<String, Method> FACE = face();

    private final DesertIsCounted x = new DesertIsCounted();
    private int calls = 0;

    private static Map<String, Method> face() {
        Map<String, Method> face = new TreeMap<>();
        for (Method method : DesertIsCounted.class.getDeclaredMethods()) {
            if (Modifier.isPublic(method.getModifiers())) {
                face.put(method.getName(), method);
            }
        }
        return face;
    }

    /** A desert that the texts have come over, by shelf 7, which is left with nothing. */
    static Run of(String... texts) {
        Run run = new Run();
        for (String text : texts) {
            run.write(7, text);
            String answer = run.answer("desert(7)");
            if (answer.startsWith("-")) {
                throw new IllegalArgumentException("the test's own text has a fault: " + text + " " + answer);
            }
        }
        return run.does("keep(7, 0, 0, 0)");
    }

    /** As of(), but all dips hold nothing but those told, each as dip and grains. */
    static Run withGrains(String text, int... told) {
        Run run = of(text);
        for (int dip = 0; dip < 10; dip++) {
            run.does("fills(" + dip + ", 0)");
        }
        for (int i = 0; i < told.length; i += 2) {
            run.does("fills(" + told[i] + ", " + told[i + 1] + ")");
        }
        return run;
    }

    Run does(String... told) {
        for (String call : told) {
            answer(call);
        }
        return this;
    }

    Run write(int d, String text) {
        int[] bytes = new int[text.length()];
        for (int i = 0; i < bytes.length; i++) {
            bytes[i] = text.charAt(i);
        }
        return tell(d, 0, bytes);
    }

    Run tell(int d, int sort, int... numbers) {
        does("row(" + d + ", " + sort + ", " + numbers.length + ")");
        for (int i = 0; i < numbers.length; i++) {
            // 0 stands there at first; leaving it out keeps long rows far from 512 calls.
            if (numbers[i] != 0) {
                does("put(" + d + ", " + i + ", " + numbers[i] + ")");
            }
        }
        return this;
    }

    Run due(String call, long want) {
        return due(call, Long.toString(want));
    }

    Run due(String call, String want) {
        Check.due(call, want, answer(call));
        return this;
    }

    /** The answer, or the simple name of what is thrown. */
    String answer(String call) {
        calls++;
        if (calls > MOST_CALLS) {
            throw new IllegalStateException("the test's own run is too long, at " + call);
        }
        int open = call.indexOf('(');
        Method method = FACE.get(call.substring(0, open));
        String inside = call.substring(open + 1, call.length() - 1).trim();
        String[] told = inside.isEmpty() ? new String[0] : inside.split(",");
        if (method == null || method.getParameterCount() != told.length) {
            throw new IllegalArgumentException("no such call: " + call);
        }
        Object[] given = new Object[told.length];
        for (int i = 0; i < told.length; i++) {
            given[i] = Integer.parseInt(told[i].trim());
        }
        try {
            return String.valueOf(method.invoke(x, given));
        } catch (InvocationTargetException e) {
            return e.getCause().getClass().getSimpleName();
        } catch (IllegalAccessException e) {
            throw new IllegalStateException(e);
        }
    }

    /** All that can be read without changing it, shelves included. */
    String all() {
        StringBuilder all = new StringBuilder();
        for (int what = 0; what <= 6; what++) {
            all.append(answer("count(" + what + ")")).append(' ');
        }
        for (int i = 0; i < 30; i++) {
            all.append(answer("dip(" + i / 3 + ", " + i % 3 + ")")).append(i % 3 == 2 ? '|' : ' ');
        }
        int corporals = Integer.parseInt(answer("count(0)"));
        for (int i = 0; i < 7 * corporals; i++) {
            all.append(answer("corporal(" + i / 7 + ", " + i % 7 + ")")).append(i % 7 == 6 ? '|' : ' ');
        }
        for (int d = 0; d < 8; d++) {
            all.append(answer("cost(" + d + ")")).append(' ').append(answer("toss(" + d + ")"));
            String element = "";
            for (int i = 0; i <= 100 && !element.startsWith("Illegal"); i++) {
                element = answer("element(" + d + ", " + i + ")");
                all.append(' ').append(element);
            }
            all.append('|');
        }
        return all.toString();
    }
}
