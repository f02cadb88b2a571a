import java.util.ArrayList;
import java.util.HashSet;
import java.util.List;
import java.util.Map;
import java.util.Random;
import java.util.Set;
import java.util.TreeMap;

/** Random runs of calls, the same on BeardPass and on the Model: all promises, with wrong inputs among them. */
public final class ModelTest {
    private static final String[] NAMES = {"ta", "tb", "tc", "td", "te", "tf"};
    private static final String[] PEOPLE = {"pa", "pb", "pc", "pd", "pe", "pf"};
    private static final String[] KINDS = {"plain", "smooth", "bishop", "grey", "plain", "grey", "smooth"};
    private static final String[] WORDS = {"town", "asks", "road", "person", "at", "beard", "purse", "grows", "inch",
        "reads", "go", "forge", "shave", "week", "plain", "smooth", "bishop", "grey", "not", "and", "or", "(", ")", "<",
        "=", "+", "-", "*", ";", "long", "false", "asked", "weeks", "ta", "tb", "pa", "pb", "0", "7", "31", "100", "9999",
        "12345", "toolongaword", "A", "&", "\n", "x", "tg"};

    private static final int CALLS = 33;

    /** Of each call, how often it was made and which answers were due. */
    private static final Map<String, Integer> MADE = new TreeMap<>();
    private static final Map<String, Set<Integer>> ANSWERS = new TreeMap<>();

    private final Random random;
    private final Probe probe = new Probe();
    private final Model model = new Model();
    private final StringBuilder run = new StringBuilder();

    private ModelTest(long seed) {
        random = new Random(seed);
    }

    public static void main(String[] args) {
        int runs = args.length > 0 ? Integer.parseInt(args[0]) : 1500;
        for (int seed = 0; seed < runs; seed++) {
            new ModelTest(seed).play(seed);
        }
        eachCallWasMade(runs);
        Probe.end("ModelTest");
    }

    /** Runs that never come to a call, or to one answer of it alone, show nothing about its promise. */
    private static void eachCallWasMade(int runs) {
        Probe.same("calls of the face in the runs", MADE.size(), CALLS);
        for (String name : MADE.keySet()) {
            Probe.same(name + " was made " + MADE.get(name) + " times", MADE.get(name) >= runs / 3, true);
            Probe.same(name + " had more than one answer", ANSWERS.get(name).size() > 1, true);
        }
    }

    private int below(int n) {
        return random.nextInt(n);
    }

    private String one(String... of) {
        return of[below(of.length)];
    }

    private void play(int seed) {
        run.append("seed ").append(seed).append(": ");
        for (int i = 0; i < 4; i++) {
            tellLand();
            int calls = 10 + below(60);
            for (int j = 0; j < calls; j++) {
                call();
            }
        }
    }

    private void same(String call, int got, int due) {
        int open = call.indexOf('(');
        String name = open < 0 ? call : call.substring(0, open);
        MADE.merge(name, 1, Integer::sum);
        ANSWERS.computeIfAbsent(name, unseen -> new HashSet<>()).add(due);
        run.append(call).append(' ');
        if (got != due) {
            Probe.same(run.toString(), got, due);
            run.setLength(0);
        } else {
            Probe.same("", got, due);
        }
    }

    private void same(String call, boolean got, boolean due) {
        same(call, got ? 1 : 0, due ? 1 : 0);
    }

    private void feed(String text) {
        run.append('"').append(text).append("\" ");
        for (int i = 0; i < text.length(); i += 24) {
            long a = Probe.eight(text, i);
            long b = Probe.eight(text, i + 8);
            long c = Probe.eight(text, i + 16);
            same("feed", probe.pass.feed(a, b, c), model.feed(a, b, c));
        }
    }

    private void tellLand() {
        String text = land();
        if (below(4) == 0) {
            feed(spoilt(text));
            same("land", probe.pass.land(), model.land());
        }
        feed(text);
        same("land", probe.pass.land(), model.land());
    }

    /** One or two tokens, or signs, left out, told twice or made others. */
    private String spoilt(String text) {
        String worse = text;
        for (int i = below(2); i >= 0; i--) {
            worse = below(3) == 0 ? spoiltSign(worse) : spoiltToken(worse);
        }
        return worse;
    }

    private String spoiltSign(String text) {
        int from = below(text.length() + 1);
        int to = Math.min(text.length(), from + below(4));
        return text.substring(0, from) + one("", "", "1", "a", "&", " " + one(WORDS) + " ") + text.substring(to);
    }

    private String spoiltToken(String text) {
        List<String> tokens = new ArrayList<>(List.of(text.split("(?<=\\W)|(?=\\W)")));
        int i = below(tokens.size());
        switch (below(4)) {
            case 0: tokens.remove(i); break;
            case 1: tokens.add(below(tokens.size()), " " + tokens.get(i) + " "); break;
            case 2: tokens.set(i, tokens.get(below(tokens.size()))); break;
            default: tokens.set(i, one(WORDS));
        }
        return String.join("", tokens);
    }

    private String land() {
        StringBuilder text = new StringBuilder();
        int towns = below(12) == 0 ? below(8) : 2 + below(5);
        int persons = towns == 0 ? 0 : below(8) == 0 ? below(8) : 1 + below(6);
        List<String> rest = new ArrayList<>();
        for (int i = 0; i < towns; i++) {
            text.append("town ").append(i < 6 ? NAMES[i] : "tg").append(" asks ").append(below(below(2) == 0 ? 31 : 12)).append(';');
        }
        for (int i = 0; i < Math.min(towns, 6); i++) {
            for (int j = 0; j < i; j++) {
                if (below(5) < 3) {
                    boolean turned = below(2) == 0;
                    rest.add("road " + NAMES[turned ? j : i] + " " + NAMES[turned ? i : j] + ";");
                }
            }
        }
        for (int i = 0; i < persons; i++) {
            text.append("person ").append(i < 6 ? PEOPLE[i] : "pg").append(' ').append(one(KINDS)).append(" at ")
                .append(NAMES[below(Math.min(towns, 6))]).append(" beard ").append(below(31)).append(" purse ")
                .append(below(100)).append(";\n");
        }
        for (String line : rest) {
            text.append(line);
        }
        if (below(3) > 0) {
            text.append("grows ").append(below(6)).append(';');
        }
        if (below(3) > 0) {
            text.append("inch ").append(1 + below(9)).append(';');
        }
        if (below(3) > 0) {
            text.append("reads ").append(law(below(8) == 0 ? 6 : 3)).append(';');
        }
        return text.toString();
    }

    private String law(int depth) {
        StringBuilder text = new StringBuilder(below(2) == 0 ? test(depth)
            : "not(long<asked" + one("", "+false", "-weeks", "*2", "-long*2") + ")");
        while (below(3) == 0) {
            text.append(one(" and ", " or ", ")and(", " or\n")).append(test(depth));
        }
        return text.indexOf(")and(") >= 0 ? "(" + text + ")" : text.toString();
    }

    private String test(int depth) {
        String sum = sum(depth);
        return below(3) == 0 ? sum : sum + one("<", "=", " < ") + sum(depth);
    }

    private String sum(int depth) {
        StringBuilder text = new StringBuilder(part(depth));
        while (below(5) < 2) {
            text.append(one("+", "-", "*", " * ")).append(part(depth));
        }
        return text.toString();
    }

    private String part(int depth) {
        int which = below(depth > 0 ? 8 : 5);
        switch (which) {
            case 0: return "" + below(below(2) == 0 ? 10 : below(4) == 0 ? 10000 : 40);
            case 5: return "not " + part(depth - 1);
            case 6: return "(" + test(depth - 1) + one(" and ", " or ") + test(depth - 1) + ")";
            case 7: return "(" + sum(depth - 1) + ")";
            default: return one("long", "false", "asked", "weeks", "long", "asked");
        }
    }

    private String journey() {
        StringBuilder text = new StringBuilder();
        for (int i = below(30) == 0 ? 41 : below(25); i > 0; i--) {
            String name = PEOPLE[below(Math.max(1, model.persons()))];
            switch (below(5)) {
                case 0: text.append("week;"); break;
                case 1: text.append("shave ").append(name).append(';'); break;
                case 2: text.append("forge ").append(name).append(' ').append(1 + below(below(2) == 0 ? 4 : 20)).append(';'); break;
                default: text.append("go ").append(name).append(' ').append(NAMES[below(Math.max(1, model.towns()))]).append(';');
            }
        }
        return below(6) == 0 ? spoilt(text.toString()) : text.toString();
    }

    /** Mostly a number that is one of n, now and then another. */
    private int mostly(int n) {
        if (below(25) == 0) {
            return one("x", "y", "z").equals("x") ? -1 : below(2) == 0 ? n : random.nextInt();
        }
        return below(Math.max(1, n));
    }

    private void call() {
        int p = mostly(model.persons());
        int t = mostly(model.towns());
        switch (below(6)) {
            case 0:
            case 1: doing(p, t); return;
            case 2: looking(p, t); return;
            case 3: ways(p, t); return;
            case 4: guards(p, t); return;
            default: inches(p, t);
        }
    }

    private void doing(int p, int t) {
        BeardPass b = probe.pass;
        Model m = model;
        switch (below(11)) {
            case 0:
                int n = below(4) == 0 ? mostly(24) : 1 + below(5);
                same("forge(" + p + "," + n + ")", b.forge(p, n), m.forge(p, n));
                return;
            case 1: same("shave(" + p + ")", b.shave(p), m.shave(p)); return;
            case 2:
                for (int weeks = below(12) == 0 ? 20 : 1; weeks > 0; weeks--) {
                    same("week()", b.week(), m.week());
                }
                return;
            case 3: same("undo()", b.undo(), m.undo()); return;
            case 4:
                int mark = mostly(4);
                boolean back = below(3) == 0;
                same("mark(" + mark + "," + back + ")", b.mark(mark, back), m.mark(mark, back));
                return;
            case 5:
                if (below(3) == 0) {
                    feed(journey());
                    same("journey()", b.journey(), m.journey());
                }
                return;
            case 6:
                boolean let = below(2) == 0;
                same("see(" + t + "," + let + ")", b.see(t, let), m.see(t, let));
                return;
            default: same("go(" + p + "," + t + ")", b.go(p, t), m.go(p, t));
        }
    }

    private void looking(int p, int t) {
        BeardPass b = probe.pass;
        Model m = model;
        for (int what = -1; what <= 12; what++) {
            same("count(" + what + ")", b.count(what), m.count(what));
        }
        for (int what = -1; what <= 6; what++) {
            same("person(" + p + "," + what + ")", b.person(p, what), m.person(p, what));
        }
        for (int what = -1; what <= 3; what++) {
            same("town(" + t + "," + what + ")", b.town(t, what), m.town(t, what));
            same("judged(" + what + ")", b.judged(what), m.judged(what));
            same("lengths(" + what + ")", b.lengths(what), m.lengths(what));
        }
        same("ask()", b.ask(), m.ask());
    }

    private void ways(int p, int t) {
        BeardPass b = probe.pass;
        Model m = model;
        switch (below(5)) {
            case 0: same("reach(" + p + ")", b.reach(p), m.reach(p)); break;
            case 1: same("frontiers(" + p + "," + t + ")", b.frontiers(p, t), m.frontiers(p, t)); break;
            case 2: same("guide(" + p + "," + t + ")", b.guide(p, t), m.guide(p, t)); break;
            case 3: same("shaven(" + p + ")", b.shaven(p), m.shaven(p)); break;
            default: same("trapped()", b.trapped(), m.trapped());
        }
        if (below(3) == 0) {
            same("when(" + p + "," + t + ")", b.when(p, t), m.when(p, t));
        } else if (below(6) == 0) {
            same("round(" + p + ")", b.round(p), m.round(p));
        } else if (below(30) == 0) {
            for (int what = -1; what <= 2; what++) {
                same("meeting(" + what + ")", b.meeting(what), m.meeting(what));
            }
        }
    }

    private void guards(int p, int t) {
        BeardPass b = probe.pass;
        Model m = model;
        int more = mostly(10);
        same("speakers(" + p + "," + t + ")", b.speakers(p, t), m.speakers(p, t));
        same("strict()", b.strict(), m.strict());
        same("alike()", b.alike(), m.alike());
        same("stricter(" + t + "," + more + ")", b.stricter(t, more), m.stricter(t, more));
        int waving = mostly(10);
        int i = below(6) - 2;
        same("rests(" + more + "," + waving + "," + i + ")", probe.rests(more, waving, i), m.rests(more, waving, i));
        int seed = mostly(10000);
        int weeks = mostly(100);
        for (int what = -1; what <= 3; what++) {
            same("years(" + seed + "," + weeks + "," + what + ")", b.years(seed, weeks, what), m.years(seed, weeks, what));
        }
    }

    private void inches(int p, int t) {
        BeardPass b = probe.pass;
        Model m = model;
        same("need(" + p + "," + t + ")", b.need(p, t), m.need(p, t));
        same("debt(" + p + "," + t + ")", b.debt(p, t), m.debt(p, t));
        if (below(4) == 0) {
            same("cheapest(" + p + ")", b.cheapest(p), m.cheapest(p));
        }
    }
}
