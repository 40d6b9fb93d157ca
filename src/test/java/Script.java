import java.lang.reflect.InvocationTargetException;
import java.lang.reflect.Method;
import java.util.ArrayList;
import java.util.HashMap;
import java.util.List;
import java.util.Map;
import java.util.Set;

/** Runs calls that are written as text, "name arguments = answer; ..", each run on a new object. */
final class Script {
    /** What the document says of an object after so many calls is nothing. */
    private static final int MOST_CALLS = 512;
    private static final Map<String, Method> FACE = new HashMap<>();
    private static int wrong = 0;
    private static int calls = 0;

    static {
        for (Method method : CardTables.class.getMethods()) {
            if (method.getDeclaringClass() == CardTables.class) {
                FACE.put(method.getName(), method);
            }
        }
    }

    private Script() {
    }

    static Set<String> names() {
        return FACE.keySet();
    }

    static void run(String title, String text) {
        CardTables x = new CardTables();
        List<String> all = callsOf(text);
        for (String call : all) {
            due(title, x, call);
        }
        if (all.size() > MOST_CALLS) {
            fault(title + ": the run has " + all.size() + " calls, " + MOST_CALLS + " are promised");
        }
    }

    /**
     * A call that is refused after a run of others, so that nothing changes: a second object has the same run without
     * it, and answers what is asked of both then in the same way.
     */
    static void refused(String title, String before, String refusal, String probe) {
        CardTables x = new CardTables();
        CardTables twin = new CardTables();
        List<String> first = callsOf(before);
        for (String call : first) {
            due(title, x, call);
            answerTo(twin, call.split("=")[0].strip());
        }
        due(title, x, refusal.strip());
        List<String> asked = callsOf(probe);
        for (String call : asked) {
            String want = answerTo(twin, call);
            due(title + ", after " + refusal.strip(), x, call + " = " + want);
            if (!want.matches("-?\\d+")) {
                fault(title + ": " + call + " answered " + want);
            }
        }
        if (first.size() + 1 + asked.size() > MOST_CALLS) {
            fault(title + ": the run has more calls than are promised");
        }
    }

    /** Likewise with a call that is not refused: what is asked then is answered otherwise by the twin. */
    static void differs(String title, String before, String done, String probe) {
        CardTables x = new CardTables();
        CardTables twin = new CardTables();
        for (String call : callsOf(before)) {
            due(title, x, call);
            answerTo(twin, call.split("=")[0].strip());
        }
        due(title, x, done);
        boolean isSeen = false;
        for (String call : callsOf(probe)) {
            isSeen |= !answerTo(x, call).equals(answerTo(twin, call));
        }
        if (!isSeen) {
            fault(title + ": it is not");
        }
    }

    static void end() {
        System.out.println(calls + " calls, " + wrong + " answers are not as due");
        if (wrong != 0) {
            System.exit(1);
        }
    }

    private static List<String> callsOf(String text) {
        List<String> all = new ArrayList<>();
        for (String line : text.split("\n")) {
            for (String call : line.split(";")) {
                if (!call.isBlank() && !line.strip().startsWith("#")) {
                    all.add(call.strip());
                }
            }
        }
        return all;
    }

    private static void due(String title, CardTables x, String call) {
        String[] halves = call.split("=");
        String want = halves[1].strip();
        String got = answerTo(x, halves[0].strip());
        calls++;
        if (!got.equals(want)) {
            fault(title + ": " + halves[0].strip() + " answered " + got + ", due is " + want);
        }
    }

    static void fault(String text) {
        wrong++;
        System.out.println(text);
    }

    private static String answerTo(CardTables x, String call) {
        try {
            return String.valueOf(answer(x, call.split("\\s+")));
        } catch (InvocationTargetException e) {
            return String.valueOf(e.getCause());
        } catch (ReflectiveOperationException e) {
            return String.valueOf(e);
        }
    }

    private static int answer(CardTables x, String[] words) throws ReflectiveOperationException {
        Method method = FACE.get(words[0]);
        if (method == null || method.getParameterCount() != words.length - 1) {
            throw new NoSuchMethodException(String.join(" ", words));
        }
        Class<?>[] types = method.getParameterTypes();
        Object[] values = new Object[types.length];
        for (int i = 0; i < types.length; i++) {
            values[i] = types[i] == boolean.class
                    ? (Object) words[i + 1].equals("true") : (Object) Integer.valueOf(words[i + 1]);
        }
        return (Integer) method.invoke(x, values);
    }
}
