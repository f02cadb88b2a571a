import java.util.ArrayDeque;
import java.util.ArrayList;
import java.util.Arrays;
import java.util.HashMap;
import java.util.HashSet;
import java.util.List;
import java.util.Map;
import java.util.Set;
import java.util.TreeSet;

/** The document once more, in the plainest way, with the whole Java library: ModelTest holds BeardPass against it. */
final class Model {
    static final class Fault extends Exception {
        private static final long serialVersionUID = 1L;
        final int code;

        Fault(int kind, int place) {
            code = kind + 16 * place;
        }
    }

    /** Type: w a word, n a number, e the end, ? none, else the sign itself. */
    record Token(char type, String text, int place) { }

    interface Law {
        int of(int length, int forged, int asked, int weeks);
    }

    record Person(String kind, int home, int beard, int purse) { }

    record Line(String deed, int doer, int object) { }

    record Sight(int town, boolean let, int week) { }

    static final class Land {
        final List<String> townNames = new ArrayList<>();
        final List<Integer> asks = new ArrayList<>();
        final Set<Set<Integer>> roads = new HashSet<>();
        final List<String> personNames = new ArrayList<>();
        final List<Person> persons = new ArrayList<>();
        final Map<String, Integer> rates = new HashMap<>();
        Law law = (l, f, a, w) -> l < a ? 0 : 1;
    }

    static final class State {
        int week;
        int[] at;
        int[] beard;
        int[] forged;
        int[] purse;
        List<Set<Integer>> been = new ArrayList<>();

        State copy() {
            State other = new State();
            other.week = week;
            other.at = at.clone();
            other.beard = beard.clone();
            other.forged = forged.clone();
            other.purse = purse.clone();
            for (Set<Integer> towns : been) {
                other.been.add(new TreeSet<>(towns));
            }
            return other;
        }
    }

    record Held(State state, List<Line> plan, List<Sight> seen) { }

    private static final Set<String> KEPT = Set.of("town", "asks", "road", "person", "at", "beard", "purse",
        "grows", "inch", "reads", "go", "forge", "shave", "week", "plain", "smooth", "bishop", "grey", "not", "and", "or");
    private static final List<String> KINDS = List.of("plain", "smooth", "bishop", "grey");

    String tape = "";
    Land land = new Land();
    List<Line> plan = new ArrayList<>();
    List<Sight> seen = new ArrayList<>();
    State now = beginning(land);
    final ArrayDeque<State> past = new ArrayDeque<>();
    final Held[] marks = new Held[4];

    // ---- reading ----

    private List<Token> tokens;
    private int at;

    private static List<Token> cut(String text) {
        List<Token> found = new ArrayList<>();
        int i = 0;
        while (i < text.length()) {
            char c = text.charAt(i);
            int j = i + 1;
            if (c == ' ' || c == '\n') {
                i++;
                continue;
            }
            char type = "()<=+-*;".indexOf(c) >= 0 ? c : '?';
            if (c >= 'a' && c <= 'z') {
                while (j < text.length() && text.charAt(j) >= 'a' && text.charAt(j) <= 'z') {
                    j++;
                }
                type = j - i <= 8 ? 'w' : '?';
            } else if (c >= '0' && c <= '9') {
                while (j < text.length() && text.charAt(j) >= '0' && text.charAt(j) <= '9') {
                    j++;
                }
                type = j - i <= 4 ? 'n' : '?';
            }
            found.add(new Token(type, text.substring(i, j), i));
            i = j;
        }
        found.add(new Token('e', "", text.length()));
        return found;
    }

    private Token look() {
        return tokens.get(at);
    }

    private Fault fault(int kind) {
        return new Fault(kind, look().place);
    }

    private boolean sees(String text) {
        return look().text.equals(text) && look().type != '?' && look().type != 'e';
    }

    private void take(String text) throws Fault {
        if (!sees(text)) {
            throw fault(1);
        }
        at++;
    }

    private String name() throws Fault {
        if (look().type != 'w' || KEPT.contains(look().text)) {
            throw fault(1);
        }
        return look().text;
    }

    private int known(List<String> names) throws Fault {
        int i = names.indexOf(name());
        if (i < 0) {
            throw fault(2);
        }
        return i;
    }

    private String fresh(Land draft) throws Fault {
        String name = name();
        if (draft.townNames.contains(name) || draft.personNames.contains(name)) {
            throw fault(3);
        }
        at++;
        return name;
    }

    private int number(int least, int most) throws Fault {
        if (look().type != 'n') {
            throw fault(1);
        }
        int n = Integer.parseInt(look().text);
        if (n < least || n > most) {
            throw fault(4);
        }
        at++;
        return n;
    }

    private void start() {
        tokens = cut(tape);
        at = 0;
        tape = "";
    }

    int land() {
        start();
        Land draft = new Land();
        try {
            Set<String> once = new HashSet<>();
            while (look().type != 'e') {
                String word = look().text;
                if (!List.of("town", "road", "person", "grows", "inch", "reads").contains(word)) {
                    throw fault(1);
                }
                if (once.contains(word)) {
                    throw fault(3);
                }
                if (word.equals("town") && draft.asks.size() == 6 || word.equals("person") && draft.persons.size() == 6) {
                    throw fault(5);
                }
                if (List.of("grows", "inch", "reads").contains(word)) {
                    once.add(word);
                }
                at++;
                landLine(word, draft);
                take(";");
            }
        } catch (Fault e) {
            return e.code;
        }
        land = draft;
        now = beginning(land);
        plan = new ArrayList<>();
        seen = new ArrayList<>();
        past.clear();
        Arrays.fill(marks, null);
        return 0;
    }

    private void landLine(String word, Land draft) throws Fault {
        if (word.equals("town")) {
            String name = fresh(draft);
            take("asks");
            draft.asks.add(number(0, 30));
            draft.townNames.add(name);
        } else if (word.equals("road")) {
            int one = known(draft.townNames);
            at++;
            int other = known(draft.townNames);
            if (one == other || !draft.roads.add(Set.of(one, other))) {
                throw fault(3);
            }
            at++;
        } else if (word.equals("person")) {
            String name = fresh(draft);
            String kind = look().text;
            if (!KINDS.contains(kind)) {
                throw fault(1);
            }
            at++;
            take("at");
            int home = known(draft.townNames);
            at++;
            take("beard");
            int beard = number(0, 30);
            take("purse");
            draft.persons.add(new Person(kind, home, beard, number(0, 99)));
            draft.personNames.add(name);
        } else if (word.equals("reads")) {
            draft.law = whole(0);
        } else {
            draft.rates.put(word, word.equals("grows") ? number(0, 5) : number(1, 9));
        }
    }

    private Law whole(int depth) throws Fault {
        Law left = test(depth);
        while (sees("and") || sees("or")) {
            boolean and = sees("and");
            at++;
            Law one = left;
            Law two = test(depth);
            left = (l, f, a, w) -> {
                boolean x = one.of(l, f, a, w) != 0;
                boolean y = two.of(l, f, a, w) != 0;
                return (and ? x && y : x || y) ? 1 : 0;
            };
        }
        return left;
    }

    private Law test(int depth) throws Fault {
        Law one = sum(depth);
        if (!sees("<") && !sees("=")) {
            return one;
        }
        boolean less = sees("<");
        at++;
        Law two = sum(depth);
        return (l, f, a, w) -> {
            int x = one.of(l, f, a, w);
            int y = two.of(l, f, a, w);
            return (less ? x < y : x == y) ? 1 : 0;
        };
    }

    private Law sum(int depth) throws Fault {
        Law left = product(depth);
        while (sees("+") || sees("-")) {
            int sign = sees("+") ? 1 : -1;
            at++;
            Law one = left;
            Law two = product(depth);
            left = (l, f, a, w) -> one.of(l, f, a, w) + sign * two.of(l, f, a, w);
        }
        return left;
    }

    private Law product(int depth) throws Fault {
        Law left = part(depth);
        while (sees("*")) {
            at++;
            Law one = left;
            Law two = part(depth);
            left = (l, f, a, w) -> one.of(l, f, a, w) * two.of(l, f, a, w);
        }
        return left;
    }

    private Law part(int depth) throws Fault {
        Token token = look();
        boolean number = token.type == 'n';
        if (!number && !List.of("long", "false", "asked", "weeks", "not", "(").contains(token.text)) {
            throw fault(1);
        }
        if (depth == 5) {
            throw fault(5);
        }
        at++;
        if (number) {
            int n = Integer.parseInt(token.text);
            return (l, f, a, w) -> n;
        }
        switch (token.text) {
            case "long": return (l, f, a, w) -> l;
            case "false": return (l, f, a, w) -> f;
            case "asked": return (l, f, a, w) -> a;
            case "weeks": return (l, f, a, w) -> w;
            case "not":
                Law inner = part(depth + 1);
                return (l, f, a, w) -> inner.of(l, f, a, w) == 0 ? 1 : 0;
            default:
                Law within = whole(depth + 1);
                take(")");
                return within;
        }
    }

    int journey() {
        start();
        List<Line> draft = new ArrayList<>();
        try {
            while (look().type != 'e') {
                String deed = look().text;
                if (!List.of("go", "forge", "shave", "week").contains(deed)) {
                    throw fault(1);
                }
                if (draft.size() == 40) {
                    throw fault(5);
                }
                at++;
                int doer = -1;
                int object = -1;
                if (!deed.equals("week")) {
                    doer = known(land.personNames);
                    at++;
                }
                if (deed.equals("go")) {
                    object = known(land.townNames);
                    at++;
                } else if (deed.equals("forge")) {
                    object = number(1, 20);
                }
                take(";");
                draft.add(new Line(deed, doer, object));
            }
        } catch (Fault e) {
            return e.code;
        }
        plan = draft;
        return 0;
    }

    int feed(long a, long b, long c) {
        for (long eight : new long[] {a, b, c}) {
            for (int i = 7; i >= 0; i--) {
                int sign = (int) (eight >> 8 * i) & 255;
                if ((sign == 10 || sign >= 32 && sign < 127) && tape.length() < 1000) {
                    tape += (char) sign;
                }
            }
        }
        return tape.length();
    }

    // ---- standing and doing ----

    private static State beginning(Land land) {
        State state = new State();
        int many = land.persons.size();
        state.at = new int[many];
        state.beard = new int[many];
        state.forged = new int[many];
        state.purse = new int[many];
        for (int i = 0; i < many; i++) {
            state.at[i] = land.persons.get(i).home;
            state.beard[i] = land.persons.get(i).beard;
            state.purse[i] = land.persons.get(i).purse;
            state.been.add(new TreeSet<>(Set.of(state.at[i])));
        }
        return state;
    }

    int towns() {
        return land.asks.size();
    }

    int persons() {
        return land.persons.size();
    }

    String kind(int p) {
        return land.persons.get(p).kind;
    }

    int grows() {
        return land.rates.getOrDefault("grows", 1);
    }

    int inch() {
        return land.rates.getOrDefault("inch", 2);
    }

    boolean isP(int p) {
        return 0 <= p && p < persons();
    }

    boolean isT(int t) {
        return 0 <= t && t < towns();
    }

    boolean road(int a, int b) {
        return a != b && land.roads.contains(Set.of(a, b));
    }

    boolean lets(State s, int p, int t, int more) {
        switch (kind(p)) {
            case "bishop":
                return true;
            case "smooth":
                for (int q = 0; q < persons(); q++) {
                    if (!kind(q).equals("smooth") && s.at[q] == s.at[p] && lets(s, q, t, more)) {
                        return true;
                    }
                }
                return false;
            default:
                int asked = land.asks.get(t) + more;
                if (kind(p).equals("grey")) {
                    asked /= 2;
                }
                return land.law.of(s.beard[p] + s.forged[p], s.forged[p], asked, s.week) != 0;
        }
    }

    boolean doGo(State s, int p, int t, int more) {
        if (!road(s.at[p], t) || !lets(s, p, t, more)) {
            return false;
        }
        s.at[p] = t;
        s.been.get(p).add(t);
        return true;
    }

    boolean doForge(State s, int p, int n) {
        if (kind(p).equals("smooth") || n < 1 || n > 20 || s.forged[p] + n > 20 || n * inch() > s.purse[p]) {
            return false;
        }
        s.forged[p] += n;
        s.purse[p] -= n * inch();
        return true;
    }

    void doShave(State s, int p) {
        s.beard[p] = 0;
        s.forged[p] = 0;
    }

    void doWeek(State s) {
        s.week++;
        for (int p = 0; p < persons(); p++) {
            if (!kind(p).equals("smooth")) {
                s.beard[p] = Math.min(60, s.beard[p] + grows());
            }
        }
    }

    private void remember(State before) {
        past.push(before);
        if (past.size() > 16) {
            past.removeLast();
        }
    }

    boolean go(int p, int t) {
        State before = now.copy();
        if (!isP(p) || !isT(t) || !doGo(now, p, t, 0)) {
            return false;
        }
        remember(before);
        return true;
    }

    int forge(int p, int n) {
        State before = now.copy();
        if (!isP(p) || !doForge(now, p, n)) {
            return -1;
        }
        remember(before);
        return now.purse[p];
    }

    boolean shave(int p) {
        if (!isP(p)) {
            return false;
        }
        remember(now.copy());
        doShave(now, p);
        return true;
    }

    int week() {
        remember(now.copy());
        doWeek(now);
        return now.week;
    }

    boolean undo() {
        if (past.isEmpty()) {
            return false;
        }
        now = past.pop();
        return true;
    }

    static int bits(Iterable<Integer> set) {
        int b = 0;
        for (int i : set) {
            b |= 1 << i;
        }
        return b;
    }

    int person(int p, int what) {
        if (!isP(p) || what < 0 || what > 5) {
            return -1;
        }
        return new int[] {KINDS.indexOf(kind(p)), now.at[p], now.beard[p] + now.forged[p], now.forged[p], now.purse[p],
            bits(now.been.get(p))}[what];
    }

    Set<Integer> passers(int t) {
        Set<Integer> set = new TreeSet<>();
        for (int p = 0; p < persons(); p++) {
            if (lets(now, p, t, 0)) {
                set.add(p);
            }
        }
        return set;
    }

    int town(int t, int what) {
        if (!isT(t) || what < 0 || what > 2) {
            return -1;
        }
        if (what == 0) {
            return land.asks.get(t);
        }
        if (what == 2) {
            return bits(passers(t));
        }
        int b = 0;
        for (int u = 0; u < towns(); u++) {
            b |= road(t, u) ? 1 << u : 0;
        }
        return b;
    }

    int judged(int what) {
        State s = beginning(land);
        int first = -1;
        int strictest = -1;
        int money = 0;
        for (int i = 0; i < plan.size(); i++) {
            Line line = plan.get(i);
            boolean done = true;
            switch (line.deed) {
                case "go": done = doGo(s, line.doer, line.object, 0); break;
                case "forge": done = doForge(s, line.doer, line.object); break;
                case "shave": doShave(s, line.doer); break;
                default: doWeek(s);
            }
            if (!done && first < 0) {
                first = i;
            }
            if (done && line.deed.equals("go") && strictest < 0
                    && land.asks.stream().allMatch(a -> a <= land.asks.get(line.object))) {
                strictest = i;
            }
            if (done && line.deed.equals("forge")) {
                money += line.object * inch();
            }
        }
        return what == 0 ? first : what == 1 ? strictest : what == 2 ? money : -2;
    }

    // ---- searching, state by state ----

    /** The towns to which one comes, each with the fewest goes. */
    Map<Integer, Integer> goes(State from, int p, int more) {
        Map<Integer, Integer> found = new HashMap<>();
        ArrayDeque<State> open = new ArrayDeque<>();
        found.put(from.at[p], 0);
        open.add(from.copy());
        while (!open.isEmpty()) {
            State s = open.poll();
            for (int t = 0; t < towns(); t++) {
                State next = s.copy();
                if (doGo(next, p, t, more) && !found.containsKey(t)) {
                    found.put(t, found.get(s.at[p]) + 1);
                    open.add(next);
                }
            }
        }
        return found;
    }

    int reach(int p) {
        return isP(p) ? bits(goes(now, p, 0).keySet()) : -1;
    }

    int frontiers(int p, int t) {
        return isP(p) && isT(t) ? goes(now, p, 0).getOrDefault(t, -1) : -1;
    }

    int guide(int p, int t) {
        int best = frontiers(p, t);
        if (best < 1) {
            return -1;
        }
        for (int u = 0; u < towns(); u++) {
            State s = now.copy();
            if (doGo(s, p, u, 0) && goes(s, p, 0).getOrDefault(t, 99) == best - 1) {
                return u;
            }
        }
        return -1;
    }

    int when(int p, int t) {
        if (!isP(p) || !isT(t)) {
            return -1;
        }
        Set<Integer> places = new TreeSet<>(Set.of(now.at[p]));
        State s = now.copy();
        for (int w = 0; w <= 99; w++) {
            for (int place : new TreeSet<>(places)) {
                State there = s.copy();
                there.at[p] = place;
                places.addAll(goes(there, p, 0).keySet());
            }
            if (places.contains(t)) {
                return w;
            }
            doWeek(s);
        }
        return -1;
    }

    int round(int p) {
        if (!isP(p)) {
            return -1;
        }
        Set<List<Object>> known = new HashSet<>();
        known.add(List.of(now.at[p], new TreeSet<>(now.been.get(p))));
        State s = now.copy();
        for (int w = 0; w <= 99; w++) {
            ArrayDeque<List<Object>> open = new ArrayDeque<>(known);
            while (!open.isEmpty()) {
                List<Object> one = open.poll();
                @SuppressWarnings("unchecked")
                Set<Integer> been = (Set<Integer>) one.get(1);
                if (been.size() == towns()) {
                    return w;
                }
                for (int t = 0; t < towns(); t++) {
                    State next = s.copy();
                    next.at[p] = (Integer) one.get(0);
                    next.been.set(p, new TreeSet<>(been));
                    if (doGo(next, p, t, 0)) {
                        List<Object> two = List.of(t, next.been.get(p));
                        if (known.add(two)) {
                            open.add(two);
                        }
                    }
                }
            }
            doWeek(s);
        }
        return -1;
    }

    int need(int p, int t) {
        if (!isP(p) || !isT(t)) {
            return -1;
        }
        for (int n = 0; n <= 20; n++) {
            State s = now.copy();
            s.purse[p] = 9999;
            if ((n == 0 || doForge(s, p, n)) && goes(s, p, 0).containsKey(t)) {
                return n;
            }
        }
        return -1;
    }

    int cheapest(int p) {
        int best = -1;
        for (int t = 0; isP(p) && t < towns(); t++) {
            if (frontiers(p, t) < 0 && need(p, t) >= 0 && (best < 0 || need(p, t) < need(p, best))) {
                best = t;
            }
        }
        return best;
    }

    int debt(int p, int t) {
        int n = need(p, t);
        return n < 0 ? -1 : Math.max(0, n * inch() - now.purse[p]);
    }

    int trapped() {
        int b = 0;
        for (int p = 0; p < persons(); p++) {
            b |= goes(now, p, 0).size() == 1 ? 1 << p : 0;
        }
        return b;
    }

    int shaven(int p) {
        if (!isP(p)) {
            return -1;
        }
        State s = now.copy();
        doShave(s, p);
        return bits(goes(s, p, 0).keySet());
    }

    int meeting(int what) {
        int best = -1;
        int weeks = -1;
        for (int t = 0; t < towns(); t++) {
            int latest = 0;
            for (int p = 0; p < persons(); p++) {
                int w = when(p, t);
                latest = w < 0 ? 1000 : Math.max(latest, w);
            }
            if (latest < 1000 && (best < 0 || latest < weeks)) {
                best = t;
                weeks = latest;
            }
        }
        return what == 0 ? weeks : what == 1 ? best : -1;
    }

    int speakers(int p, int t) {
        if (!isP(p) || !isT(t) || !kind(p).equals("smooth")) {
            return -1;
        }
        int b = 0;
        for (int q = 0; q < persons(); q++) {
            b |= !kind(q).equals("smooth") && now.at[q] == now.at[p] && lets(now, q, t, 0) ? 1 << q : 0;
        }
        return b;
    }

    int strict() {
        int best = -1;
        for (int t = 0; t < towns(); t++) {
            if (best < 0 || passers(t).size() < passers(best).size()) {
                best = t;
            }
        }
        return best;
    }

    int alike() {
        int pairs = 0;
        for (int t = 0; t < towns(); t++) {
            for (int u = 0; u < t; u++) {
                pairs += passers(t).equals(passers(u)) ? 1 : 0;
            }
        }
        return pairs;
    }

    boolean see(int t, boolean let) {
        return isT(t) && seen.size() < 8 && seen.add(new Sight(t, let, now.week));
    }

    List<Integer> possible() {
        List<Integer> left = new ArrayList<>();
        for (int length = 0; length <= 30; length++) {
            int n = length;
            if (seen.stream().allMatch(s -> (land.law.of(n, 0, land.asks.get(s.town), s.week) != 0) == s.let)) {
                left.add(n);
            }
        }
        return left;
    }

    int lengths(int what) {
        List<Integer> left = possible();
        if (what == 0) {
            return left.size();
        }
        return what < 0 || what > 2 || left.isEmpty() ? -1 : what == 1 ? left.get(0) : left.get(left.size() - 1);
    }

    int ask() {
        List<Integer> left = possible();
        int best = -1;
        int least = left.size();
        for (int t = 0; t < towns(); t++) {
            int let = 0;
            for (int n : left) {
                let += land.law.of(n, 0, land.asks.get(t), now.week) != 0 ? 1 : 0;
            }
            if (Math.max(let, left.size() - let) < least) {
                least = Math.max(let, left.size() - let);
                best = t;
            }
        }
        return best;
    }

    int stricter(int t, int more) {
        if (!isT(t) || more < 0 || more > 9) {
            return -1;
        }
        int b = 0;
        for (int p = 0; p < persons(); p++) {
            b |= goes(now, p, more).containsKey(t) ? 1 << p : 0;
        }
        return b;
    }

    /** -9 for the exception. */
    int rests(int reading, int waving, int what) {
        if (reading < 0 || reading > 9 || waving < 0 || waving > 9 || what < -1) {
            return -9;
        }
        int[][] guard = {{0, -waving}, {-1, reading}};
        int[][] traveller = {{0, waving}, {0, -reading}};
        List<Integer> found = new ArrayList<>();
        for (int g = 0; g < 2; g++) {
            for (int t = 0; t < 2; t++) {
                if (guard[g][t] >= guard[1 - g][t] && traveller[g][t] >= traveller[g][1 - t]) {
                    found.add(2 * g + t);
                }
            }
        }
        return what == -1 ? found.size() : what < found.size() ? found.get(what) : -9;
    }

    private long g;

    private int draw(int m) {
        g = (g * 1103515245L + 12345L) & 0x7fffffffL;
        return (int) ((g >> 16) % m);
    }

    int years(int seed, int weeks, int what) {
        if (seed < 0 || seed > 9999 || weeks < 1 || weeks > 99 || what < 0 || what > 2) {
            return -1;
        }
        State s = now.copy();
        g = seed;
        int done = 0;
        int barred = 0;
        for (int w = 0; w < weeks; w++) {
            for (int p = 0; p < persons(); p++) {
                int t = draw(towns());
                boolean byRoad = road(s.at[p], t);
                if (doGo(s, p, t, 0)) {
                    done++;
                } else if (byRoad) {
                    barred++;
                }
                if (draw(20) == 0) {
                    doShave(s, p);
                }
            }
            doWeek(s);
        }
        return what == 0 ? done : what == 1 ? barred : bits(Arrays.stream(s.at).boxed().toList());
    }

    boolean mark(int m, boolean back) {
        if (m < 0 || m > 3 || back && marks[m] == null) {
            return false;
        }
        if (!back) {
            marks[m] = new Held(now.copy(), plan, new ArrayList<>(seen));
            return true;
        }
        now = marks[m].state.copy();
        plan = marks[m].plan;
        seen = new ArrayList<>(marks[m].seen);
        past.clear();
        return true;
    }

    int count(int what) {
        if (what < 0 || what > 11) {
            return -1;
        }
        return new int[] {towns(), persons(), grows(), inch(), now.week, bits(Arrays.stream(now.at).boxed().toList()),
            Arrays.stream(now.forged).sum(), Arrays.stream(now.purse).sum(), plan.size(), seen.size(), past.size(),
            tape.length()}[what];
    }
}
