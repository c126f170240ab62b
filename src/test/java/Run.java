import java.lang.reflect.InvocationTargetException;
import java.lang.reflect.Method;
import java.lang.reflect.Modifier;
import java.util.HashMap;
import java.util.LinkedHashMap;
import java.util.Map;

/** Calls on one new object, written as texts: what is tested stands as the sentence of the document ahead of them. */
final class Run {
    private static final Map<String, Method> FACE = face();
    private static final int MOST_CALLS = 512;

    final DrawerOfArms x = new DrawerOfArms();
    private final String sentence;
    private int calls = 0;

    private Run(String sentence) {
        this.sentence = sentence;
    }

    static Run of(String sentence) {
        return new Run(sentence);
    }

    /** A run of calls "call = due", by lines or parted by ;. What stands behind // is for the reader. */
    static Run of(String sentence, String lines) {
        return new Run(sentence).go(lines);
    }

    private static Map<String, Method> face() {
        Map<String, Method> face = new HashMap<>();
        for (Method m : DrawerOfArms.class.getDeclaredMethods()) {
            if (Modifier.isPublic(m.getModifiers())) {
                face.put(m.getName(), m);
            }
        }
        return face;
    }

    /** Makes a call as it is written, as mend(0, 1, 0). */
    long ask(String call) {
        calls++;
        if (calls > MOST_CALLS) {
            throw new IllegalStateException("more than 512 calls: " + sentence);
        }
        int open = call.indexOf('(');
        Method m = FACE.get(call.substring(0, open));
        String inside = call.substring(open + 1, call.indexOf(')')).trim();
        String[] texts = inside.isEmpty() ? new String[0] : inside.split(",");
        if (m == null || texts.length != m.getParameterCount()) {
            throw new IllegalStateException("no such call: " + call);
        }
        Object[] with = new Object[texts.length];
        for (int i = 0; i < texts.length; i++) {
            long v = Long.decode(texts[i].trim());
            if (m.getParameterTypes()[i] == long.class) {
                with[i] = v;
            } else {
                with[i] = Math.toIntExact(v);
            }
        }
        try {
            return ((Number) m.invoke(x, with)).longValue();
        } catch (InvocationTargetException e) {
            throw new IllegalStateException(sentence + ": " + call + " threw " + e.getCause(), e);
        } catch (IllegalAccessException e) {
            throw new IllegalStateException(e);
        }
    }

    Run is(String call, long due) {
        Due.is(sentence + ": " + call, ask(call), due);
        return this;
    }

    Run go(String lines) {
        for (String line : lines.split("\n")) {
            for (String text : line.replaceAll("//.*", "").split(";")) {
                if (!text.isBlank()) {
                    int at = text.lastIndexOf('=');
                    is(text.substring(0, at).trim(), Long.decode(text.substring(at + 1).trim()));
                }
            }
        }
        return this;
    }

    /** The same call for each of some numbers put where the sign # stands. */
    Run each(String call, long due, long... numbers) {
        for (long n : numbers) {
            is(call.replace("#", Long.toString(n)), due);
        }
        return this;
    }

    /** A new row of bytes with the letters of a text. */
    Run write(int s, String text) {
        is("row(" + s + ", 0, " + text.length() + ")", 1);
        for (int i = 0; i < text.length(); i++) {
            is("set(" + s + ", " + i + ", " + (int) text.charAt(i) + ")", 1);
        }
        return this;
    }

    /** A new row of ints. */
    Run fill(int s, long... numbers) {
        is("row(" + s + ", 2, " + numbers.length + ")", 1);
        for (int i = 0; i < numbers.length; i++) {
            is("set(" + s + ", " + i + ", " + numbers[i] + ")", 1);
        }
        return this;
    }

    /** A shop read from a text by way of shelf 7: how many items. */
    Run shop(String text, int items) {
        return write(7, text).heard(text, items, -1);
    }

    /** A text that is no shop: its fault. */
    Run fault(String text, int fault) {
        return write(7, text).heard(text, -6, fault);
    }

    private Run heard(String text, int answer, int fault) {
        Due.is(sentence + ": shop of \"" + text + "\"", ask("shop(7)"), answer);
        Due.is(sentence + ": fault of \"" + text + "\"", ask("fault()"), fault);
        return this;
    }

    /** All that the object tells of itself, but how many refusals there were. Of rows some elements are asked. */
    Map<String, Long> told() {
        Map<String, Long> told = new LinkedHashMap<>();
        for (int what = 0; what <= 8; what++) {
            keep(told, "status(" + what + ")");
        }
        for (int i = 0; i < told.get("status(0)"); i++) {
            for (int what = 0; what <= 8; what++) {
                keep(told, "armOf(" + i + ", " + what + ")");
            }
        }
        for (int d = 0; d < told.get("status(1)"); d++) {
            for (int what = 0; what <= 8; what++) {
                keep(told, "dollOf(" + d + ", " + what + ")");
            }
        }
        for (int s = 0; s < 8; s++) {
            keep(told, "holds(" + s + ")");
            for (int i = 0; i < 5 && told.get("holds(" + s + ")") >= 100; i++) {
                keep(told, "element(" + s + ", " + i + ")");
            }
        }
        keep(told, "fault()");
        for (int i = 0; i < 12; i++) {
            keep(told, "trace(" + i + ")");
        }
        return told;
    }

    private void keep(Map<String, Long> told, String call) {
        told.put(call, ask(call));
    }

    /** How often each refusal was answered, -1 first. */
    long[] refusals() {
        long[] counts = new long[7];
        for (int r = 1; r <= 7; r++) {
            counts[r - 1] = ask("status(" + (10 + r) + ")");
        }
        return counts;
    }
}
