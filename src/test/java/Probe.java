import java.util.NoSuchElementException;
import java.util.function.ToIntFunction;
import java.util.regex.Matcher;
import java.util.regex.Pattern;

/** One object under test, fed with plain texts, and the tally of wrong answers of a test. */
final class Probe {
    /** The words that can be no NAME. */
    static final String[] KEPT = {"town", "asks", "road", "person", "at", "beard", "purse", "grows", "inch", "reads", "go",
        "forge", "shave", "week", "plain", "smooth", "bishop", "grey", "not", "and", "or"};

    private static final Pattern TOKEN = Pattern.compile("[a-z]+|[0-9]+|\\S");

    private static int checked = 0;
    private static int wrong = 0;

    final BeardPass pass = new BeardPass();
    private int calls = 0;

    static Probe of(String land) {
        Probe probe = new Probe();
        same("land " + land, probe.land(land), 0);
        return probe;
    }

    static void same(String what, long got, long want) {
        checked++;
        if (got != want) {
            wrong++;
            System.out.println(what + " answered " + got + ", due is " + want);
        }
    }

    static void same(String what, boolean got, boolean want) {
        same(what, got ? 1 : 0, want ? 1 : 0);
    }

    static void end(String test) {
        System.out.println(test + ": " + checked + " checked, " + wrong + " wrong");
        if (wrong != 0) {
            System.exit(1);
        }
    }

    /** The eight bytes from a place on, the highest first; beyond the end 0, which the tape leaves out. */
    static long eight(String text, int from) {
        long bytes = 0;
        for (int i = from; i < from + 8; i++) {
            bytes = bytes << 8 | (i < text.length() ? text.charAt(i) & 255 : 0);
        }
        return bytes;
    }

    /** What an object answers behind its 512th call is free: a test must not lean on it. */
    void called() {
        calls++;
        if (calls == 513) {
            same("calls on one object", calls, 512);
        }
    }

    int feed(String text) {
        called();
        int many = pass.count(11);
        for (int i = 0; i < text.length(); i += 24) {
            called();
            many = pass.feed(eight(text, i), eight(text, i + 8), eight(text, i + 16));
        }
        return many;
    }

    int land(String text) {
        feed(text);
        called();
        return pass.land();
    }

    int journey(String text) {
        feed(text);
        called();
        return pass.journey();
    }

    /** A text in which @ stands before the wrong token. */
    void landFault(int kind, String text) {
        same("land " + text, land(text.replace("@", "")), kind + 16 * text.indexOf('@'));
    }

    void journeyFault(int kind, String text) {
        same("journey " + text, journey(text.replace("@", "")), kind + 16 * text.indexOf('@'));
    }

    /** Of a right text: cut behind any of its tokens, its end is wrong unless a line has just ended. */
    static void cutAnywhere(String text, ToIntFunction<String> reader) {
        Matcher tokens = TOKEN.matcher(text);
        while (tokens.find()) {
            String part = text.substring(0, tokens.end());
            same("cut: " + part, reader.applyAsInt(part), part.endsWith(";") ? 0 : 1 + 16 * part.length());
        }
    }

    /** Of a right text: with another in the place of any of its tokens, that one can't stand there. */
    static void wrongAnywhere(String text, String wrong, ToIntFunction<String> reader) {
        Matcher tokens = TOKEN.matcher(text);
        while (tokens.find()) {
            if (!tokens.group().equals(wrong)) {
                String other = text.substring(0, tokens.start()) + " " + wrong + " " + text.substring(tokens.end());
                same("wrong: " + other, reader.applyAsInt(other), 1 + 16 * (tokens.start() + 1));
            }
        }
    }

    /** The answer of rests, or -9 for NoSuchElementException. */
    int rests(int reading, int waving, int what) {
        try {
            return pass.rests(reading, waving, what);
        } catch (NoSuchElementException e) {
            return -9;
        }
    }
}
