import java.lang.reflect.InvocationTargetException;
import java.lang.reflect.Method;
import java.util.ArrayList;
import java.util.List;
import java.util.NoSuchElementException;

/**
 * A run of calls on a new object, told in lines: <pre>
 *   land town a asks 3;       -> 0          the text is fed, then land is called; likewise journey, feed
 *   land town a asks @31;     -> fault4     the fault's kind, its place being behind the @
 *   person(0..1, 2)           -> 7 none     a call for each number of a range, the first argument's the slowest
 *   go(0, 1)                  -> no yes     a call without a range, once for each answer
 *   rests(5, 3, 0)            -> throws     NoSuchElementException
 * </pre> A line without an arrow is a remark.
 */
final class Script {
    private final String title;
    private final Probe probe = new Probe();

    private Script(String title) {
        this.title = title;
    }

    static void run(String title, String text) {
        Script script = new Script(title);
        for (String line : text.split("\n")) {
            int arrow = line.lastIndexOf("->");
            if (arrow >= 0) {
                script.row(line.substring(0, arrow).strip(), line.substring(arrow + 2).strip().split(" +"));
            }
        }
    }

    private void row(String call, String[] due) {
        int space = call.indexOf(' ');
        String word = space < 0 ? call : call.substring(0, space);
        String text = space < 0 ? "" : call.substring(space + 1);
        switch (word) {
            case "land": same(call, probe.land(text.replace("@", "")), number(due[0], text)); return;
            case "journey": same(call, probe.journey(text.replace("@", "")), number(due[0], text)); return;
            case "feed": same(call, probe.feed(text), number(due[0], text)); return;
            default: calls(call, due);
        }
    }

    private void same(String call, int got, int due) {
        Probe.same(title + ": " + call, got, due);
    }

    private static int number(String answer, String text) {
        return answer.startsWith("fault") ? Integer.parseInt(answer.substring(5)) + 16 * text.indexOf('@') : number(answer);
    }

    private static int number(String answer) {
        switch (answer) {
            case "none": return -1;
            case "throws": return Integer.MIN_VALUE;
            case "yes": return 1;
            case "no": return 0;
            default: return Integer.parseInt(answer);
        }
    }

    private void calls(String call, String[] due) {
        int open = call.indexOf('(');
        String inside = call.substring(open + 1, call.lastIndexOf(')'));
        List<String> rows = new ArrayList<>(List.of(""));
        for (String argument : inside.isBlank() ? new String[0] : inside.split(", *")) {
            rows = longer(rows, argument);
        }
        boolean ranges = inside.contains("..");
        Probe.same(title + ": answers told for " + call, !ranges || due.length == rows.size(), true);
        for (int i = 0; i < due.length; i++) {
            String row = rows.get(ranges ? Math.min(i, rows.size() - 1) : 0).strip();
            same(call + " by " + row, answer(call.substring(0, open), row), number(due[i]));
        }
    }

    private static List<String> longer(List<String> rows, String argument) {
        List<String> all = new ArrayList<>();
        int dots = argument.indexOf("..");
        for (String row : rows) {
            if (dots < 0) {
                all.add(row + " " + argument);
                continue;
            }
            int last = Integer.parseInt(argument.substring(dots + 2));
            for (int i = Integer.parseInt(argument.substring(0, dots)); i <= last; i++) {
                all.add(row + " " + i);
            }
        }
        return all;
    }

    /** A boolean counts 1 or 0, the exception of rests as "throws" does. */
    private int answer(String name, String row) {
        String[] words = row.isEmpty() ? new String[0] : row.split(" ");
        Method method = named(name);
        Object[] values = new Object[words.length];
        for (int i = 0; i < words.length; i++) {
            values[i] = value(words[i], method.getParameterTypes()[i]);
        }
        try {
            probe.called();
            Object got = method.invoke(probe.pass, values);
            return got instanceof Boolean so ? (so ? 1 : 0) : (Integer) got;
        } catch (InvocationTargetException e) {
            if (e.getCause() instanceof NoSuchElementException) {
                return Integer.MIN_VALUE;
            }
            throw new IllegalStateException(title + ": " + name + " " + row, e.getCause());
        } catch (IllegalAccessException e) {
            throw new IllegalStateException(e);
        }
    }

    private static Method named(String name) {
        for (Method method : BeardPass.class.getMethods()) {
            if (method.getName().equals(name)) {
                return method;
            }
        }
        throw new IllegalStateException("no call " + name);
    }

    private static Object value(String word, Class<?> type) {
        if (type == boolean.class) {
            return word.equals("true") || word.equals("yes");
        }
        if (type == long.class) {
            return word.startsWith("0x") ? Long.parseUnsignedLong(word.substring(2), 16) : Long.parseLong(word);
        }
        return word.equals("none") ? -1 : Integer.parseInt(word);
    }
}
