import java.lang.reflect.InvocationTargetException;
import java.lang.reflect.Method;

/** Runs calls that are written as text, "name arguments = answer; ..", each run on a new object. */
final class Script {
    private static int wrong = 0;
    private static int calls = 0;

    private Script() {
    }

    static void run(String title, String text) {
        CardTables x = new CardTables();
        for (String line : text.split("\n")) {
            if (line.strip().startsWith("#")) {
                continue;
            }
            for (String call : line.split(";")) {
                if (!call.isBlank()) {
                    due(title, x, call.strip());
                }
            }
        }
    }

    static void end() {
        System.out.println(calls + " calls, " + wrong + " answers are not as due");
        if (wrong != 0) {
            System.exit(1);
        }
    }

    private static void due(String title, CardTables x, String call) {
        String[] halves = call.split("=");
        int want = Integer.parseInt(halves[1].strip());
        String got;
        try {
            got = String.valueOf(answer(x, halves[0].strip().split("\\s+")));
        } catch (InvocationTargetException e) {
            got = String.valueOf(e.getCause());
        } catch (ReflectiveOperationException e) {
            got = String.valueOf(e);
        }
        calls++;
        if (!got.equals(String.valueOf(want))) {
            wrong++;
            System.out.println(title + ": " + halves[0].strip() + " answered " + got + ", due is " + want);
        }
    }

    private static int answer(CardTables x, String[] words) throws ReflectiveOperationException {
        for (Method method : CardTables.class.getMethods()) {
            if (method.getName().equals(words[0]) && method.getDeclaringClass() == CardTables.class) {
                Class<?>[] types = method.getParameterTypes();
                Object[] values = new Object[types.length];
                for (int i = 0; i < types.length; i++) {
                    values[i] = types[i] == boolean.class
                            ? (Object) words[i + 1].equals("true") : (Object) Integer.valueOf(words[i + 1]);
                }
                return (Integer) method.invoke(x, values);
            }
        }
        throw new NoSuchMethodException(words[0]);
    }
}
