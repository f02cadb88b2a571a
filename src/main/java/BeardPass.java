import java.util.Arrays;
import java.util.NoSuchElementException;

/**
 * A frontier where beards are passports. The numbered promises of the document say what each
 * public method answers; README.md says how the parts hang together.
 *
 * All rows are made by the constructor and used again: no call makes an object.
 */
public final class BeardPass {
    public static final int NONE = -1;

    private static final int MOST_TOWNS = 6;
    private static final int MOST_PERSONS = 6;
    private static final int MOST_SIGNS = 1000;
    private static final int MOST_LINES = 40;
    private static final int MOST_SEEN = 8;
    private static final int MOST_UNDONE = 16;
    private static final int MOST_MARKS = 4;
    private static final int MOST_FORGED = 20;
    private static final int MOST_GROWN = 60;
    private static final int MOST_WITHIN = 5;
    private static final int LAST_WEEK = 99;
    private static final int LONGEST_UNREAD = 30;
    // bits 0 to LONGEST_UNREAD
    private static final int ALL_LENGTHS = 0x7fffffff;
    private static final int MOST_STAKE = 9;

    private static final int PLAIN = 0;
    private static final int SMOOTH = 1;
    private static final int BISHOP = 2;
    private static final int GREY = 3;

    private static final int MISPLACED = 1;
    private static final int UNKNOWN = 2;
    private static final int TOLD_TWICE = 3;
    private static final int OUT_OF_RANGE = 4;
    private static final int TOO_MANY = 5;

    private final Tape tape = new Tape();
    private final Land told = new Land();
    private final Land toldDraft = new Land();
    private final LandReader landReader = new LandReader();
    private final Journey plan = new Journey();
    private final Journey planDraft = new Journey();
    private final Frontier frontier = new Frontier(told);
    private final Ways ways = new Ways(told, frontier);
    private final Standing now = new Standing();
    private final Standing trial = new Standing();
    private final Sightings sightings = new Sightings();
    private final Standing[] past = new Standing[MOST_UNDONE];
    private final Mark[] marks = new Mark[MOST_MARKS];
    private int pastNext = 0;
    private int pastCount = 0;

    public BeardPass() {
        for (int i = 0; i < MOST_UNDONE; i++) {
            past[i] = new Standing();
        }
        for (int i = 0; i < MOST_MARKS; i++) {
            marks[i] = new Mark();
        }
    }

    // ---- what is told ----

    public int feed(long a, long b, long c) {
        tape.put(a);
        tape.put(b);
        tape.put(c);
        return tape.length;
    }

    public int land() {
        boolean right = landReader.read(tape, toldDraft);
        tape.length = 0;
        if (!right) {
            return tape.fault;
        }
        told.copy(toldDraft);
        now.begin(told);
        plan.lines = 0;
        sightings.clear();
        forgetPast();
        for (int i = 0; i < MOST_MARKS; i++) {
            marks[i].laid = false;
        }
        return 0;
    }

    public int journey() {
        boolean right = planDraft.read(tape, told);
        tape.length = 0;
        if (!right) {
            return tape.fault;
        }
        plan.copy(planDraft);
        return 0;
    }

    // ---- how it is ----

    public int person(int person, int what) {
        if (!isPerson(person)) {
            return NONE;
        }
        switch (what) {
            case 0: return told.kinds[person];
            case 1: return now.places[person];
            case 2: return now.beards[person] + now.forged[person];
            case 3: return now.forged[person];
            case 4: return now.purses[person];
            case 5: return now.been[person];
            default: return NONE;
        }
    }

    public int town(int town, int what) {
        if (!isTown(town)) {
            return NONE;
        }
        switch (what) {
            case 0: return told.asks[town];
            case 1: return told.roads[town];
            case 2: return frontier.letThrough(now, town);
            default: return NONE;
        }
    }

    public int count(int what) {
        switch (what) {
            case 0: return told.towns;
            case 1: return told.persons;
            case 2: return told.grows;
            case 3: return told.inch;
            case 4: return now.weeks;
            case 5: return now.peopled(told.persons);
            case 6: return sum(now.forged);
            case 7: return sum(now.purses);
            case 8: return plan.lines;
            case 9: return sightings.many;
            case 10: return pastCount;
            case 11: return tape.length;
            default: return NONE;
        }
    }

    private int sum(int[] ofPersons) {
        int all = 0;
        for (int i = 0; i < told.persons && i < ofPersons.length; i++) {
            all += ofPersons[i];
        }
        return all;
    }

    private boolean isPerson(int person) {
        return person >= 0 && person < told.persons;
    }

    private boolean isTown(int town) {
        return town >= 0 && town < told.towns;
    }

    // ---- by hand ----

    public boolean go(int person, int town) {
        if (!isPerson(person) || !isTown(town) || !frontier.canGo(now, person, town)) {
            return false;
        }
        remember();
        now.arrive(person, town);
        return true;
    }

    public int forge(int person, int inches) {
        if (!isPerson(person) || !frontier.canForge(now, person, inches)) {
            return NONE;
        }
        remember();
        frontier.sell(now, person, inches);
        return now.purses[person];
    }

    public boolean shave(int person) {
        if (!isPerson(person)) {
            return false;
        }
        remember();
        now.loseBeard(person);
        return true;
    }

    public int week() {
        remember();
        frontier.passWeek(now);
        return now.weeks;
    }

    public boolean undo() {
        if (pastCount == 0) {
            return false;
        }
        pastNext = (pastNext + MOST_UNDONE - 1) % MOST_UNDONE;
        pastCount--;
        now.copy(past[pastNext]);
        return true;
    }

    private void remember() {
        past[pastNext].copy(now);
        pastNext = (pastNext + 1) % MOST_UNDONE;
        pastCount = Math.min(pastCount + 1, MOST_UNDONE);
    }

    private void forgetPast() {
        pastNext = 0;
        pastCount = 0;
    }

    public boolean mark(int mark, boolean back) {
        if (mark < 0 || mark >= MOST_MARKS) {
            return false;
        }
        Mark chosen = marks[mark];
        if (!back) {
            chosen.lay(now, plan, sightings);
            return true;
        }
        if (!chosen.laid) {
            return false;
        }
        now.copy(chosen.standing);
        plan.copy(chosen.plan);
        sightings.copy(chosen.sightings);
        forgetPast();
        return true;
    }

    // ---- the journey ----

    public int judged(int what) {
        int leftOut = NONE;
        int strictest = NONE;
        int most = told.mostAsked();
        trial.begin(told);
        for (int line = 0; line < plan.lines; line++) {
            if (!plan.perform(line, frontier, trial)) {
                leftOut = leftOut == NONE ? line : leftOut;
            } else if (strictest == NONE && plan.goesTo(line) != NONE
                    && told.asks[plan.goesTo(line)] == most) {
                strictest = line;
            }
        }
        switch (what) {
            case 0: return leftOut;
            case 1: return strictest;
            case 2: return sum(told.purses) - sum(trial.purses);
            default: return -2;
        }
    }

    // ---- who may go where ----

    public int reach(int person) {
        return isPerson(person) ? ways.reachOf(now, person, 0) : NONE;
    }

    public int frontiers(int person, int town) {
        if (!isPerson(person) || !isTown(town)) {
            return NONE;
        }
        ways.lay(now, person, 0);
        return ways.distance(now.places[person], town);
    }

    public int guide(int person, int town) {
        if (!isPerson(person) || !isTown(town)) {
            return NONE;
        }
        ways.lay(now, person, 0);
        return ways.firstStep(now.places[person], town);
    }

    public int when(int person, int town) {
        if (!isPerson(person) || !isTown(town)) {
            return NONE;
        }
        ways.findSoonest(now, person, 1 << town);
        return ways.soonest[town];
    }

    public int round(int person) {
        return isPerson(person) ? ways.soonestRound(now, person) : NONE;
    }

    public int trapped() {
        int bits = 0;
        for (int person = 0; person < told.persons; person++) {
            ways.lay(now, person, 0);
            if (ways.steps[now.places[person]] == 0) {
                bits |= 1 << person;
            }
        }
        return bits;
    }

    public int shaven(int person) {
        if (!isPerson(person)) {
            return NONE;
        }
        trial.copy(now);
        trial.loseBeard(person);
        return ways.reachOf(trial, person, 0);
    }

    public int stricter(int town, int inches) {
        if (!isTown(town) || inches < 0 || inches > 9) {
            return NONE;
        }
        int bits = 0;
        for (int person = 0; person < told.persons; person++) {
            if (has(ways.reachOf(now, person, inches), town)) {
                bits |= 1 << person;
            }
        }
        return bits;
    }

    // ---- inches to be bought ----

    public int need(int person, int town) {
        return isPerson(person) && isTown(town) ? fewestInches(person, town) : NONE;
    }

    public int cheapest(int person) {
        if (!isPerson(person)) {
            return NONE;
        }
        int best = NONE;
        int least = MOST_FORGED + 1;
        for (int town = 0; town < told.towns; town++) {
            int inches = fewestInches(person, town);
            // a town within reach has need 0
            if (inches > 0 && inches < least) {
                least = inches;
                best = town;
            }
        }
        return best;
    }

    public int debt(int person, int town) {
        if (!isPerson(person) || !isTown(town)) {
            return NONE;
        }
        int inches = fewestInches(person, town);
        if (inches == NONE) {
            return NONE;
        }
        return Math.max(0, inches * told.inch - now.purses[person]);
    }

    private int fewestInches(int person, int town) {
        int most = told.kinds[person] == SMOOTH ? 0 : MOST_FORGED - now.forged[person];
        for (int inches = 0; inches <= most; inches++) {
            trial.copy(now);
            trial.forged[person] += inches;
            if (has(ways.reachOf(trial, person, 0), town)) {
                return inches;
            }
        }
        return NONE;
    }

    // ---- all persons, all guards ----

    public int meeting(int what) {
        if (what != 0 && what != 1) {
            return NONE;
        }
        Arrays.fill(ways.latest, 0);
        for (int person = 0; person < told.persons; person++) {
            ways.findSoonest(now, person, told.allTowns());
            ways.waitForSoonest();
        }
        int best = NONE;
        for (int town = 0; town < told.towns; town++) {
            int weeks = ways.latest[town];
            if (weeks != NONE && (best == NONE || weeks < ways.latest[best])) {
                best = town;
            }
        }
        return best == NONE || what == 1 ? best : ways.latest[best];
    }

    public int speakers(int person, int town) {
        if (!isPerson(person) || !isTown(town) || told.kinds[person] != SMOOTH) {
            return NONE;
        }
        return frontier.voices(now, now.places[person], town);
    }

    public int strict() {
        int best = NONE;
        int fewest = MOST_PERSONS + 1;
        for (int town = 0; town < told.towns; town++) {
            int many = Integer.bitCount(frontier.letThrough(now, town));
            if (many < fewest) {
                fewest = many;
                best = town;
            }
        }
        return best;
    }

    public int alike() {
        int pairs = 0;
        for (int one = 0; one < told.towns; one++) {
            int letByOne = frontier.letThrough(now, one);
            for (int other = one + 1; other < told.towns; other++) {
                if (frontier.letThrough(now, other) == letByOne) {
                    pairs++;
                }
            }
        }
        return pairs;
    }

    // ---- the unread one ----

    public boolean see(int town, boolean let) {
        if (!isTown(town) || sightings.many >= MOST_SEEN) {
            return false;
        }
        int passing = told.unreadLet(town, now.weeks);
        sightings.add(let ? passing : ~passing);
        return true;
    }

    public int lengths(int what) {
        int bits = sightings.possible;
        switch (what) {
            case 0: return Integer.bitCount(bits);
            case 1: return bits == 0 ? NONE : Integer.numberOfTrailingZeros(bits);
            case 2: return bits == 0 ? NONE : 31 - Integer.numberOfLeadingZeros(bits);
            default: return NONE;
        }
    }

    public int ask() {
        int bits = sightings.possible;
        int all = Integer.bitCount(bits);
        int best = NONE;
        int least = all;
        for (int town = 0; town < told.towns; town++) {
            int let = Integer.bitCount(bits & told.unreadLet(town, now.weeks));
            int greater = Math.max(let, all - let);
            if (greater < least) {
                least = greater;
                best = town;
            }
        }
        return best;
    }

    // ---- a frontier of two ----

    public int rests(int reading, int waving, int what) throws NoSuchElementException {
        if (!isStake(reading) || !isStake(waving) || what < NONE) {
            throw new NoSuchElementException("no such frontier");
        }
        int found = 0;
        for (int pair = 0; pair < 4; pair++) {
            if (isAtRest(reading, waving, pair)) {
                if (found == what) {
                    return pair;
                }
                found++;
            }
        }
        if (what != NONE) {
            throw new NoSuchElementException("no such rest");
        }
        return found;
    }

    private static boolean isStake(int stake) {
        return stake >= 0 && stake <= MOST_STAKE;
    }

    // a pair is 2 * the guard's choice + the traveller's, so each changes his own bit
    private static boolean isAtRest(int reading, int waving, int pair) {
        return guardGets(reading, waving, pair ^ 2) <= guardGets(reading, waving, pair)
            && travellerGets(reading, waving, pair ^ 1) <= travellerGets(reading, waving, pair);
    }

    private static int guardGets(int reading, int waving, int pair) {
        switch (pair) {
            case 1: return -waving;
            case 2: return -1;
            case 3: return reading;
            default: return 0;
        }
    }

    private static int travellerGets(int reading, int waving, int pair) {
        switch (pair) {
            case 1: return waving;
            case 3: return -reading;
            default: return 0;
        }
    }

    // ---- years by draws ----

    public int years(int seed, int weeks, int what) {
        if (seed < 0 || seed > 9999 || weeks < 1 || weeks > LAST_WEEK || what < 0 || what > 2) {
            return NONE;
        }
        trial.copy(now);
        long g = seed;
        int gone = 0;
        int barred = 0;
        for (int i = 0; i < weeks; i++) {
            for (int person = 0; person < told.persons; person++) {
                g = nextDraw(g);
                int town = below(g, told.towns);
                if (frontier.canGo(trial, person, town)) {
                    trial.arrive(person, town);
                    gone++;
                } else if (has(told.roads[trial.places[person]], town)) {
                    barred++;
                }
                g = nextDraw(g);
                if (below(g, 20) == 0) {
                    trial.loseBeard(person);
                }
            }
            frontier.passWeek(trial);
        }
        if (what == 2) {
            return trial.peopled(told.persons);
        }
        return what == 0 ? gone : barred;
    }

    private static long nextDraw(long g) {
        return (g * 1103515245L + 12345L) % 2147483648L;
    }

    private static int below(long g, int bound) {
        return bound < 1 ? 0 : (int) (g / 65536L % bound);
    }

    private static boolean has(int bits, int i) {
        return (bits >> i & 1) != 0;
    }

    /** What a token is; a text stands where it can be spelt in one way only. */
    private enum Sort {
        TOWN("town"), ASKS("asks"), ROAD("road"), PERSON("person"), AT("at"), BEARD("beard"),
        PURSE("purse"), GROWS("grows"), INCH("inch"), READS("reads"), GO("go"), FORGE("forge"),
        SHAVE("shave"), WEEK("week"), PLAIN("plain"), SMOOTH("smooth"), BISHOP("bishop"),
        GREY("grey"), NOT("not"), AND("and"), OR("or"),
        OPEN("("), CLOSE(")"), LESS("<"), SAME("="), PLUS("+"), MINUS("-"), TIMES("*"), STOP(";"),
        NAME(""), NUMBER(""), END(""), NO_TOKEN("");

        private static final Sort[] ALL = values();

        final String text;

        Sort(String text) {
            this.text = text;
        }
    }

    /** The signs that were fed, and the token at which a reader of them stands. */
    private static final class Tape {
        private static final int LONGEST_WORD = 8;
        private static final int LONGEST_NUMBER = 4;

        final char[] signs = new char[MOST_SIGNS];
        int length = 0;
        int place = 0;
        int next = 0;
        Sort sort = Sort.END;
        int number = 0;
        long word = 0;
        int fault = 0;

        void put(long eight) {
            for (int shift = 56; shift >= 0; shift -= 8) {
                int sign = (int) (eight >>> shift & 255);
                boolean fits = sign == 10 || sign >= 32 && sign <= 126;
                if (fits && length < MOST_SIGNS) {
                    signs[length] = (char) sign;
                    length++;
                }
            }
        }

        void begin() {
            next = 0;
            fault = 0;
            step();
        }

        void step() {
            while (next < length && (signs[next] == ' ' || signs[next] == 10)) {
                next++;
            }
            place = next;
            if (next >= length) {
                sort = Sort.END;
            } else if (isLetter(signs[next])) {
                stepOverWord();
                sort = next - place > LONGEST_WORD ? Sort.NO_TOKEN : sortAs(Sort.NAME);
            } else if (isDigit(signs[next])) {
                stepOverNumber();
                sort = next - place > LONGEST_NUMBER ? Sort.NO_TOKEN : Sort.NUMBER;
            } else {
                next++;
                sort = sortAs(Sort.NO_TOKEN);
            }
        }

        private void stepOverWord() {
            word = 0;
            while (next < length && isLetter(signs[next])) {
                // up to 8 letters of 5 bits each: a name is kept as one number
                word = word << 5 | signs[next] - 'a' + 1;
                next++;
            }
        }

        private void stepOverNumber() {
            number = 0;
            while (next < length && isDigit(signs[next])) {
                number = number * 10 + (signs[next] - '0');
                next++;
            }
        }

        private Sort sortAs(Sort otherwise) {
            for (int i = 0; i < Sort.ALL.length; i++) {
                if (spells(Sort.ALL[i].text)) {
                    return Sort.ALL[i];
                }
            }
            return otherwise;
        }

        boolean spells(String text) {
            if (next - place != text.length()) {
                return false;
            }
            for (int i = 0; i < text.length() && place + i < length; i++) {
                if (signs[place + i] != text.charAt(i)) {
                    return false;
                }
            }
            return true;
        }

        private static boolean isLetter(char sign) {
            return sign >= 'a' && sign <= 'z';
        }

        private static boolean isDigit(char sign) {
            return sign >= '0' && sign <= '9';
        }

        boolean wrong(int kind) {
            fault = kind + 16 * place;
            return false;
        }

        boolean take(Sort wanted) {
            if (sort != wanted) {
                return wrong(MISPLACED);
            }
            step();
            return true;
        }

        int takeNumber(int least, int most) {
            if (sort != Sort.NUMBER || number < least || number > most) {
                wrong(sort != Sort.NUMBER ? MISPLACED : OUT_OF_RANGE);
                return NONE;
            }
            int taken = number;
            step();
            return taken;
        }

        // the two below stay at the name, for its place may be that of a further fault

        int townHere(Land land) {
            int town = sort == Sort.NAME ? land.townNamed(word) : NONE;
            if (town == NONE) {
                wrong(sort == Sort.NAME ? UNKNOWN : MISPLACED);
            }
            return town;
        }

        int personHere(Land land) {
            int person = sort == Sort.NAME ? land.personNamed(word) : NONE;
            if (person == NONE) {
                wrong(sort == Sort.NAME ? UNKNOWN : MISPLACED);
            }
            return person;
        }
    }

    /** The E of reads, as a row of steps over a stack: what is worked on stands before its sign. */
    private static final class Law {
        // a NUMBER is a step of its own; all other steps are below 0
        private static final int LONG = -1;
        private static final int FALSE = -2;
        private static final int ASKED = -3;
        private static final int WEEKS = -4;
        private static final int NOT = -5;
        private static final int AND = -6;
        private static final int OR = -7;
        private static final int LESS = -8;
        private static final int SAME = -9;
        private static final int PLUS = -10;
        private static final int MINUS = -11;
        private static final int TIMES = -12;
        private static final int NO_STEP = -13;

        // within each of 5 an E leaves at most 4 values open, so 32 are enough
        private static final int MOST_OPEN = 32;

        final int[] code = new int[MOST_SIGNS];
        final int[] stack = new int[MOST_OPEN];
        int size = 0;

        void beAsUntold() {
            size = 0;
            add(LONG);
            add(ASKED);
            add(LESS);
            add(NOT);
        }

        void copy(Law other) {
            size = other.size;
            System.arraycopy(other.code, 0, code, 0, size);
        }

        private void add(int step) {
            if (size < code.length) {
                code[size] = step;
                size++;
            }
        }

        // the steps come behind those that are there: an E lies within an E
        private boolean readWhole(Tape tape, int within) {
            if (!readTest(tape, within)) {
                return false;
            }
            for (int i = 0; i < MOST_SIGNS && (tape.sort == Sort.AND || tape.sort == Sort.OR); i++) {
                int joint = tape.sort == Sort.AND ? AND : OR;
                tape.step();
                if (!readTest(tape, within)) {
                    return false;
                }
                add(joint);
            }
            return true;
        }

        private boolean readTest(Tape tape, int within) {
            if (!readSum(tape, within)) {
                return false;
            }
            if (tape.sort != Sort.LESS && tape.sort != Sort.SAME) {
                return true;
            }
            int joint = tape.sort == Sort.LESS ? LESS : SAME;
            tape.step();
            if (!readSum(tape, within)) {
                return false;
            }
            add(joint);
            return true;
        }

        private boolean readSum(Tape tape, int within) {
            if (!readProduct(tape, within)) {
                return false;
            }
            for (int i = 0; i < MOST_SIGNS && (tape.sort == Sort.PLUS || tape.sort == Sort.MINUS); i++) {
                int joint = tape.sort == Sort.PLUS ? PLUS : MINUS;
                tape.step();
                if (!readProduct(tape, within)) {
                    return false;
                }
                add(joint);
            }
            return true;
        }

        private boolean readProduct(Tape tape, int within) {
            if (!readPart(tape, within)) {
                return false;
            }
            for (int i = 0; i < MOST_SIGNS && tape.sort == Sort.TIMES; i++) {
                tape.step();
                if (!readPart(tape, within)) {
                    return false;
                }
                add(TIMES);
            }
            return true;
        }

        private boolean readPart(Tape tape, int within) {
            boolean opens = tape.sort == Sort.OPEN;
            boolean denies = tape.sort == Sort.NOT;
            int step = denies ? NOT : valueHere(tape);
            if (!opens && step == NO_STEP) {
                return tape.wrong(MISPLACED);
            }
            if (within >= MOST_WITHIN) {
                return tape.wrong(TOO_MANY);
            }
            tape.step();
            if (opens) {
                return readWhole(tape, within + 1) && tape.take(Sort.CLOSE);
            }
            if (denies && !readPart(tape, within + 1)) {
                return false;
            }
            add(step);
            return true;
        }

        private static int valueHere(Tape tape) {
            if (tape.sort == Sort.NUMBER) {
                return tape.number;
            }
            // a fact is no word that is kept from names
            if (tape.sort != Sort.NAME) {
                return NO_STEP;
            }
            if (tape.spells("long")) {
                return LONG;
            }
            if (tape.spells("false")) {
                return FALSE;
            }
            if (tape.spells("asked")) {
                return ASKED;
            }
            return tape.spells("weeks") ? WEEKS : NO_STEP;
        }

        boolean passes(int length, int forged, int asked, int weeks) {
            int top = 0;
            for (int i = 0; i < size; i++) {
                int step = code[i];
                if (step > NOT) {
                    if (top >= MOST_OPEN) {
                        return false;
                    }
                    stack[top] = valueOf(step, length, forged, asked, weeks);
                    top++;
                } else if (step == NOT && top > 0) {
                    stack[top - 1] = stack[top - 1] == 0 ? 1 : 0;
                } else if (step < NOT && top > 1) {
                    top--;
                    stack[top - 1] = join(step, stack[top - 1], stack[top]);
                }
            }
            return top > 0 && stack[top - 1] != 0;
        }

        private static int valueOf(int step, int length, int forged, int asked, int weeks) {
            switch (step) {
                case LONG: return length;
                case FALSE: return forged;
                case ASKED: return asked;
                case WEEKS: return weeks;
                default: return step;
            }
        }

        private static int join(int step, int left, int right) {
            switch (step) {
                case AND: return left != 0 && right != 0 ? 1 : 0;
                case OR: return left != 0 || right != 0 ? 1 : 0;
                case LESS: return left < right ? 1 : 0;
                case SAME: return left == right ? 1 : 0;
                case PLUS: return left + right;
                case MINUS: return left - right;
                default: return left * right;
            }
        }
    }

    /** What a LAND tells; it stays as it is until the next one is told. */
    private static final class Land {
        final int[] asks = new int[MOST_TOWNS];
        final int[] roads = new int[MOST_TOWNS];
        final long[] townNames = new long[MOST_TOWNS];
        final int[] kinds = new int[MOST_PERSONS];
        final int[] homes = new int[MOST_PERSONS];
        final int[] beards = new int[MOST_PERSONS];
        final int[] purses = new int[MOST_PERSONS];
        final long[] personNames = new long[MOST_PERSONS];
        final Law law = new Law();
        int towns = 0;
        int persons = 0;
        int grows = 1;
        int inch = 2;

        Land() {
            law.beAsUntold();
        }

        void clear() {
            towns = 0;
            persons = 0;
            grows = 1;
            inch = 2;
            Arrays.fill(roads, 0);
            law.beAsUntold();
        }

        void copy(Land other) {
            towns = other.towns;
            persons = other.persons;
            grows = other.grows;
            inch = other.inch;
            System.arraycopy(other.asks, 0, asks, 0, MOST_TOWNS);
            System.arraycopy(other.roads, 0, roads, 0, MOST_TOWNS);
            System.arraycopy(other.townNames, 0, townNames, 0, MOST_TOWNS);
            System.arraycopy(other.kinds, 0, kinds, 0, MOST_PERSONS);
            System.arraycopy(other.homes, 0, homes, 0, MOST_PERSONS);
            System.arraycopy(other.beards, 0, beards, 0, MOST_PERSONS);
            System.arraycopy(other.purses, 0, purses, 0, MOST_PERSONS);
            System.arraycopy(other.personNames, 0, personNames, 0, MOST_PERSONS);
            law.copy(other.law);
        }

        int townNamed(long name) {
            for (int i = 0; i < towns; i++) {
                if (townNames[i] == name) {
                    return i;
                }
            }
            return NONE;
        }

        int personNamed(long name) {
            for (int i = 0; i < persons; i++) {
                if (personNames[i] == name) {
                    return i;
                }
            }
            return NONE;
        }

        int allTowns() {
            return (1 << towns) - 1;
        }

        int mostAsked() {
            int most = 0;
            for (int i = 0; i < towns; i++) {
                most = Math.max(most, asks[i]);
            }
            return most;
        }

        // the lengths, as bits, by which a guard lets a plain one without forged inches through
        int unreadLet(int town, int weeks) {
            int bits = 0;
            for (int length = 0; length <= LONGEST_UNREAD; length++) {
                if (law.passes(length, 0, asks[town], weeks)) {
                    bits |= 1 << length;
                }
            }
            return bits;
        }
    }

    /** Reads a LAND off a tape; it stops at the first fault, and the tape holds it. */
    private static final class LandReader {
        private boolean growsTold = false;
        private boolean inchTold = false;
        private boolean readsTold = false;

        boolean read(Tape tape, Land land) {
            land.clear();
            growsTold = false;
            inchTold = false;
            readsTold = false;
            tape.begin();
            for (int i = 0; i < MOST_SIGNS && tape.sort != Sort.END; i++) {
                if (!readLine(tape, land) || !tape.take(Sort.STOP)) {
                    return false;
                }
            }
            return true;
        }

        private boolean readLine(Tape tape, Land land) {
            if (tape.sort == Sort.TOWN) {
                return readTown(tape, land);
            }
            if (tape.sort == Sort.ROAD) {
                return readRoad(tape, land);
            }
            if (tape.sort == Sort.PERSON) {
                return readPerson(tape, land) && readGoods(tape, land, land.persons - 1);
            }
            if (tape.sort == Sort.GROWS) {
                return readGrows(tape, land);
            }
            if (tape.sort == Sort.INCH) {
                return readInch(tape, land);
            }
            if (tape.sort == Sort.READS) {
                return beginReads(tape, land) && land.law.readWhole(tape, 0);
            }
            return tape.wrong(MISPLACED);
        }

        private boolean readTown(Tape tape, Land land) {
            int town = land.towns;
            if (town >= MOST_TOWNS) {
                return tape.wrong(TOO_MANY);
            }
            tape.step();
            if (!isNewName(tape, land)) {
                return false;
            }
            land.townNames[town] = tape.word;
            tape.step();
            if (!tape.take(Sort.ASKS)) {
                return false;
            }
            land.asks[town] = tape.takeNumber(0, 30);
            land.towns++;
            return land.asks[town] != NONE;
        }

        private boolean readRoad(Tape tape, Land land) {
            tape.step();
            int one = tape.townHere(land);
            if (one == NONE) {
                return false;
            }
            tape.step();
            int other = tape.townHere(land);
            if (other == NONE) {
                return false;
            }
            if (one == other || has(land.roads[one], other)) {
                return tape.wrong(TOLD_TWICE);
            }
            tape.step();
            land.roads[one] |= 1 << other;
            land.roads[other] |= 1 << one;
            return true;
        }

        private boolean readPerson(Tape tape, Land land) {
            int person = land.persons;
            if (person >= MOST_PERSONS) {
                return tape.wrong(TOO_MANY);
            }
            tape.step();
            if (!isNewName(tape, land)) {
                return false;
            }
            land.personNames[person] = tape.word;
            tape.step();
            land.kinds[person] = kindHere(tape);
            if (land.kinds[person] == NONE) {
                return tape.wrong(MISPLACED);
            }
            tape.step();
            if (!tape.take(Sort.AT)) {
                return false;
            }
            land.homes[person] = tape.townHere(land);
            if (land.homes[person] == NONE) {
                return false;
            }
            tape.step();
            land.persons++;
            return true;
        }

        private boolean readGoods(Tape tape, Land land, int person) {
            if (!tape.take(Sort.BEARD)) {
                return false;
            }
            land.beards[person] = tape.takeNumber(0, 30);
            if (land.beards[person] == NONE || !tape.take(Sort.PURSE)) {
                return false;
            }
            land.purses[person] = tape.takeNumber(0, 99);
            return land.purses[person] != NONE;
        }

        private static int kindHere(Tape tape) {
            if (tape.sort == Sort.PLAIN) {
                return PLAIN;
            }
            if (tape.sort == Sort.SMOOTH) {
                return SMOOTH;
            }
            if (tape.sort == Sort.BISHOP) {
                return BISHOP;
            }
            return tape.sort == Sort.GREY ? GREY : NONE;
        }

        private static boolean isNewName(Tape tape, Land land) {
            if (tape.sort != Sort.NAME) {
                return tape.wrong(MISPLACED);
            }
            if (land.townNamed(tape.word) != NONE || land.personNamed(tape.word) != NONE) {
                return tape.wrong(TOLD_TWICE);
            }
            return true;
        }

        private boolean readGrows(Tape tape, Land land) {
            if (growsTold) {
                return tape.wrong(TOLD_TWICE);
            }
            growsTold = true;
            tape.step();
            land.grows = tape.takeNumber(0, 5);
            return land.grows != NONE;
        }

        private boolean readInch(Tape tape, Land land) {
            if (inchTold) {
                return tape.wrong(TOLD_TWICE);
            }
            inchTold = true;
            tape.step();
            land.inch = tape.takeNumber(1, 9);
            return land.inch != NONE;
        }

        private boolean beginReads(Tape tape, Land land) {
            if (readsTold) {
                return tape.wrong(TOLD_TWICE);
            }
            readsTold = true;
            tape.step();
            land.law.size = 0;
            return true;
        }
    }

    /** Where all are, and what they have, in one week. */
    private static final class Standing {
        final int[] places = new int[MOST_PERSONS];
        final int[] beards = new int[MOST_PERSONS];
        final int[] forged = new int[MOST_PERSONS];
        final int[] purses = new int[MOST_PERSONS];
        final int[] been = new int[MOST_PERSONS];
        int weeks = 0;

        void begin(Land land) {
            weeks = 0;
            for (int i = 0; i < land.persons; i++) {
                places[i] = land.homes[i];
                beards[i] = land.beards[i];
                forged[i] = 0;
                purses[i] = land.purses[i];
                been[i] = 1 << land.homes[i];
            }
        }

        void copy(Standing other) {
            weeks = other.weeks;
            System.arraycopy(other.places, 0, places, 0, MOST_PERSONS);
            System.arraycopy(other.beards, 0, beards, 0, MOST_PERSONS);
            System.arraycopy(other.forged, 0, forged, 0, MOST_PERSONS);
            System.arraycopy(other.purses, 0, purses, 0, MOST_PERSONS);
            System.arraycopy(other.been, 0, been, 0, MOST_PERSONS);
        }

        void arrive(int person, int town) {
            places[person] = town;
            been[person] |= 1 << town;
        }

        void loseBeard(int person) {
            beards[person] = 0;
            forged[person] = 0;
        }

        int peopled(int persons) {
            int bits = 0;
            for (int i = 0; i < persons; i++) {
                bits |= 1 << places[i];
            }
            return bits;
        }
    }

    /** The guards, the forgers and the weeks: what can be done in a standing. */
    private static final class Frontier {
        private final Land land;

        Frontier(Land land) {
            this.land = land;
        }

        // of one who is not smooth; more is what the town asks for beyond what was told
        boolean passesAlone(Standing standing, int person, int town, int more) {
            int kind = land.kinds[person];
            if (kind == BISHOP) {
                return true;
            }
            int asked = land.asks[town] + more;
            int forged = standing.forged[person];
            return land.law.passes(standing.beards[person] + forged, forged,
                kind == GREY ? asked / 2 : asked, standing.weeks);
        }

        // the towns, as bits, whose guards let one through who is not smooth
        int opens(Standing standing, int person, int more) {
            int bits = 0;
            for (int town = 0; town < land.towns; town++) {
                if (passesAlone(standing, person, town, more)) {
                    bits |= 1 << town;
                }
            }
            return bits;
        }

        // who speaks before a town's guard for a smooth one in a place, as bits
        int voices(Standing standing, int place, int town) {
            int bits = 0;
            for (int other = 0; other < land.persons; other++) {
                if (land.kinds[other] != SMOOTH && standing.places[other] == place
                        && passesAlone(standing, other, town, 0)) {
                    bits |= 1 << other;
                }
            }
            return bits;
        }

        boolean lets(Standing standing, int person, int town) {
            if (land.kinds[person] == SMOOTH) {
                return voices(standing, standing.places[person], town) != 0;
            }
            return passesAlone(standing, person, town, 0);
        }

        int letThrough(Standing standing, int town) {
            int bits = 0;
            for (int person = 0; person < land.persons; person++) {
                if (lets(standing, person, town)) {
                    bits |= 1 << person;
                }
            }
            return bits;
        }

        boolean canGo(Standing standing, int person, int town) {
            return has(land.roads[standing.places[person]], town) && lets(standing, person, town);
        }

        boolean canForge(Standing standing, int person, int inches) {
            return land.kinds[person] != SMOOTH && inches >= 1
                && inches <= MOST_FORGED - standing.forged[person]
                && inches * land.inch <= standing.purses[person];
        }

        void sell(Standing standing, int person, int inches) {
            standing.forged[person] += inches;
            standing.purses[person] -= inches * land.inch;
        }

        void passWeek(Standing standing) {
            standing.weeks++;
            for (int person = 0; person < land.persons; person++) {
                if (land.kinds[person] != SMOOTH) {
                    int grown = standing.beards[person] + land.grows;
                    standing.beards[person] = Math.min(grown, MOST_GROWN);
                }
            }
        }
    }

    /** The ways that are open to one person while the others stay. */
    private static final class Ways {
        private final Land land;
        private final Frontier frontier;
        private final Standing ahead = new Standing();
        // of each set of towns that one can have been in, where he can be then
        private final int[] standsAfter = new int[1 << MOST_TOWNS];
        final int[] steps = new int[MOST_TOWNS];
        final int[] soonest = new int[MOST_TOWNS];
        final int[] latest = new int[MOST_TOWNS];

        Ways(Land land, Frontier frontier) {
            this.land = land;
            this.frontier = frontier;
        }

        // steps: from each town, the towns to which the person can go from there, as bits
        void lay(Standing standing, int person, int more) {
            Arrays.fill(steps, 0);
            if (land.kinds[person] != SMOOTH) {
                int open = frontier.opens(standing, person, more);
                for (int town = 0; town < land.towns; town++) {
                    steps[town] = land.roads[town] & open;
                }
                return;
            }
            for (int other = 0; other < land.persons; other++) {
                if (land.kinds[other] != SMOOTH) {
                    int place = standing.places[other];
                    steps[place] |= land.roads[place] & frontier.opens(standing, other, more);
                }
            }
        }

        private int widen(int bits) {
            int wider = bits;
            for (int town = 0; town < land.towns; town++) {
                if (has(bits, town)) {
                    wider |= steps[town];
                }
            }
            return wider;
        }

        private int spread(int bits) {
            int wider = bits;
            for (int i = 1; i < land.towns; i++) {
                wider = widen(wider);
            }
            return wider;
        }

        int reachOf(Standing standing, int person, int more) {
            lay(standing, person, more);
            return spread(1 << standing.places[person]);
        }

        int distance(int from, int to) {
            int bits = 1 << from;
            for (int goes = 0; goes < land.towns; goes++) {
                if (has(bits, to)) {
                    return goes;
                }
                bits = widen(bits);
            }
            return NONE;
        }

        int firstStep(int from, int to) {
            int goes = distance(from, to);
            if (goes < 1) {
                return NONE;
            }
            for (int town = 0; town < land.towns; town++) {
                if (has(steps[from], town) && distance(town, to) == goes - 1) {
                    return town;
                }
            }
            return NONE;
        }

        // no week ever opens a way where no road leads
        private int linkedTo(int place) {
            System.arraycopy(land.roads, 0, steps, 0, MOST_TOWNS);
            return spread(1 << place);
        }

        // soonest: for each of the wanted towns, in how many weeks the person can be there
        void findSoonest(Standing standing, int person, int wanted) {
            int bits = 1 << standing.places[person];
            int possible = wanted & linkedTo(standing.places[person]);
            Arrays.fill(soonest, NONE);
            ahead.copy(standing);
            for (int weeks = 0; weeks <= LAST_WEEK; weeks++) {
                lay(ahead, person, 0);
                bits = spread(bits);
                for (int town = 0; town < land.towns; town++) {
                    if (soonest[town] == NONE && has(bits, town)) {
                        soonest[town] = weeks;
                    }
                }
                if ((possible & ~bits) == 0) {
                    return;
                }
                frontier.passWeek(ahead);
            }
        }

        // latest: for each town, in how many weeks the last of those asked about can be there
        void waitForSoonest() {
            for (int town = 0; town < land.towns; town++) {
                boolean never = latest[town] == NONE || soonest[town] == NONE;
                latest[town] = never ? NONE : Math.max(latest[town], soonest[town]);
            }
        }

        int soonestRound(Standing standing, int person) {
            int all = land.allTowns();
            int been = standing.been[person] & all;
            if ((been | linkedTo(standing.places[person])) != all) {
                return NONE;
            }
            Arrays.fill(standsAfter, 0);
            standsAfter[been] = 1 << standing.places[person];
            ahead.copy(standing);
            for (int weeks = 0; weeks <= LAST_WEEK; weeks++) {
                lay(ahead, person, 0);
                for (int then = been; then <= all; then++) {
                    wander(then);
                }
                if (standsAfter[all] != 0) {
                    return weeks;
                }
                frontier.passWeek(ahead);
            }
            return NONE;
        }

        // a go adds to the towns one has been in or leaves them, so lesser sets are done first
        private void wander(int been) {
            if (standsAfter[been] == 0) {
                return;
            }
            int stands = standsAfter[been];
            for (int i = 1; i < land.towns; i++) {
                stands |= widen(stands) & been;
            }
            standsAfter[been] = stands;
            int reached = widen(stands) & ~been;
            for (int town = 0; town < land.towns; town++) {
                if (has(reached, town)) {
                    standsAfter[been | 1 << town] |= 1 << town;
                }
            }
        }
    }

    /** The lines of a JOURNEY. */
    private static final class Journey {
        private static final int GO = 0;
        private static final int FORGE = 1;
        private static final int SHAVE = 2;
        private static final int WEEK = 3;

        private final int[] deeds = new int[MOST_LINES];
        private final int[] doers = new int[MOST_LINES];
        // the town of a go, the inches of a forge
        private final int[] objects = new int[MOST_LINES];
        int lines = 0;

        void copy(Journey other) {
            lines = other.lines;
            System.arraycopy(other.deeds, 0, deeds, 0, lines);
            System.arraycopy(other.doers, 0, doers, 0, lines);
            System.arraycopy(other.objects, 0, objects, 0, lines);
        }

        boolean read(Tape tape, Land land) {
            lines = 0;
            tape.begin();
            for (int i = 0; i < MOST_SIGNS && tape.sort != Sort.END; i++) {
                if (!readLine(tape, land) || !tape.take(Sort.STOP)) {
                    return false;
                }
            }
            return true;
        }

        private boolean readLine(Tape tape, Land land) {
            int deed = deedHere(tape);
            if (deed == NONE) {
                return tape.wrong(MISPLACED);
            }
            if (lines >= MOST_LINES) {
                return tape.wrong(TOO_MANY);
            }
            int line = lines;
            lines++;
            deeds[line] = deed;
            doers[line] = 0;
            objects[line] = 0;
            tape.step();
            return deed == WEEK || readDoer(tape, land, line);
        }

        private boolean readDoer(Tape tape, Land land, int line) {
            doers[line] = tape.personHere(land);
            if (doers[line] == NONE) {
                return false;
            }
            tape.step();
            if (deeds[line] == FORGE) {
                objects[line] = tape.takeNumber(1, MOST_FORGED);
            } else if (deeds[line] == GO) {
                objects[line] = tape.townHere(land);
                if (objects[line] != NONE) {
                    tape.step();
                }
            }
            return objects[line] != NONE;
        }

        private static int deedHere(Tape tape) {
            if (tape.sort == Sort.GO) {
                return GO;
            }
            if (tape.sort == Sort.FORGE) {
                return FORGE;
            }
            if (tape.sort == Sort.SHAVE) {
                return SHAVE;
            }
            return tape.sort == Sort.WEEK ? WEEK : NONE;
        }

        int goesTo(int line) {
            return deeds[line] == GO ? objects[line] : NONE;
        }

        boolean perform(int line, Frontier frontier, Standing standing) {
            int doer = doers[line];
            int object = objects[line];
            if (deeds[line] == WEEK) {
                frontier.passWeek(standing);
            } else if (deeds[line] == SHAVE) {
                standing.loseBeard(doer);
            } else if (deeds[line] == GO) {
                if (!frontier.canGo(standing, doer, object)) {
                    return false;
                }
                standing.arrive(doer, object);
            } else {
                if (!frontier.canForge(standing, doer, object)) {
                    return false;
                }
                frontier.sell(standing, doer, object);
            }
            return true;
        }
    }

    /** What was SEEN of the unread one: as each guard read by its week, only what is left counts. */
    private static final class Sightings {
        // the lengths by which all of it is so, as bits
        int possible = ALL_LENGTHS;
        int many = 0;

        void clear() {
            possible = ALL_LENGTHS;
            many = 0;
        }

        void copy(Sightings other) {
            possible = other.possible;
            many = other.many;
        }

        void add(int lengths) {
            possible &= lengths;
            many++;
        }
    }

    /** What a MARK holds. */
    private static final class Mark {
        final Standing standing = new Standing();
        final Journey plan = new Journey();
        final Sightings sightings = new Sightings();
        boolean laid = false;

        void lay(Standing nowStanding, Journey nowPlan, Sightings nowSightings) {
            standing.copy(nowStanding);
            plan.copy(nowPlan);
            sightings.copy(nowSightings);
            laid = true;
        }
    }
}
