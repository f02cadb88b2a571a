/** Edges of a JOURNEY told and JUDGED: promises 4 and 12. */
public final class JourneyEdgesTest {
    private static final String LAND = "town low asks 3;town mid asks 9;town top asks 21;road low mid;road mid top;"
        + "person pia plain at low beard 9 purse 40;person sal smooth at low beard 4 purse 9;"
        + "person bob bishop at mid beard 0 purse 60;inch 3;grows 5;";

    public static void main(String[] args) {
        anyNumberOfLines();
        fortyLines();
        inches();
        keptWords();
        namesOfNone();
        cutOrWrongAnywhere();
        firstTokenLeastKind();
        refused();
        becomesTheJourney();
        withoutALand();
        noLines();
        otherWhats();
        firstThatCannotBe();
        leftOut();
        oneLineBehindAnother();
        alwaysCanBe();
        comesToTheMost();
        equalMosts();
        moneyTogether();
        fromTheBeginning();
        asking();
        Probe.end("JourneyEdgesTest");
    }

    private static void judged(Probe probe, String journey, int first, int most, int money) {
        Probe.same("journey " + journey, probe.journey(journey), 0);
        Probe.same("can't be: " + journey, probe.pass.judged(0), first);
        Probe.same("to the most: " + journey, probe.pass.judged(1), most);
        Probe.same("money: " + journey, probe.pass.judged(2), money);
    }

    // "JOURNEY: any number of"
    private static void anyNumberOfLines() {
        Probe probe = Probe.of(LAND);
        for (String text : new String[] {"", " ", "\n"}) {
            Probe.same("none", probe.journey(text), 0);
            Probe.same("no lines", probe.pass.count(8), 0);
        }
        for (String line : new String[] {"go pia mid;", "forge pia 1;", "shave pia;", "week;"}) {
            Probe.same("one", probe.journey(line), 0);
            Probe.same("one line", probe.pass.count(8), 1);
        }
        probe.journeyFault(1, "@;");
        probe.journeyFault(1, "week;@;");
    }

    // "40 lines at most"; "the first word of a 41st line of a JOURNEY"
    private static void fortyLines() {
        Probe probe = Probe.of(LAND);
        for (int lines = 38; lines <= 40; lines++) {
            Probe.same("lines", probe.journey("week;".repeat(lines)), 0);
            Probe.same("lines", probe.pass.count(8), lines);
        }
        for (String line : new String[] {"week;", "go pia mid;", "go nobody", "forge pia 99;", "shave", "week"}) {
            probe.journeyFault(5, "week;".repeat(40) + "@" + line);
        }
        for (String line : new String[] {";", ",", "town", "pia", "weeks;", "5", "forgeries"}) {
            probe.journeyFault(1, "week;".repeat(40) + "@" + line);
        }
        Probe.same("40 stay", probe.pass.count(8), 40);
        Probe.same("blanks behind 40", probe.journey("week;".repeat(40) + " \n "), 0);
        Probe.same("40 of all kinds", probe.journey("go pia mid;forge pia 1;shave pia;week;".repeat(10)), 0);
        Probe.same("40 lines", probe.pass.count(8), 40);
        Probe.same("behind a fault", probe.journey("week;".repeat(40)), 0);
    }

    // "a PERSON, 1 to 20 inches"
    private static void inches() {
        Probe probe = Probe.of(LAND);
        for (int inches = 1; inches <= 20; inches++) {
            Probe.same("inches " + inches, probe.journey("forge pia " + inches + ";"), 0);
        }
        probe.journeyFault(4, "forge pia @0;");
        probe.journeyFault(4, "forge pia @21;");
        probe.journeyFault(4, "forge pia @9999;");
        probe.journeyFault(1, "forge pia @-1;");
        probe.journeyFault(1, "forge pia @10000;");
        // whether it can be is not asked when it is told
        Probe.same("a smooth one", probe.journey("forge sal 20;"), 0);
    }

    private static void keptWords() {
        Probe probe = Probe.of(LAND);
        for (String word : Probe.KEPT) {
            probe.journeyFault(1, "go @" + word + " mid;");
            probe.journeyFault(1, "go pia @" + word + ";");
            probe.journeyFault(1, "forge @" + word + " 1;");
            probe.journeyFault(1, "shave @" + word + ";");
        }
        for (String word : new String[] {"town", "road", "person", "grows", "inch", "reads", "pia", "mid", "undo", "not"}) {
            probe.journeyFault(1, "@" + word + " pia;");
        }
    }

    // "2 a NAME of no TOWN (... the second of go), of no PERSON (behind go, forge, shave) told"
    private static void namesOfNone() {
        Probe probe = Probe.of(LAND);
        probe.journeyFault(2, "go @joe mid;");
        probe.journeyFault(2, "go @mid mid;");
        probe.journeyFault(2, "go pia @joe;");
        probe.journeyFault(2, "go pia @bob;");
        probe.journeyFault(2, "forge @joe 1;");
        probe.journeyFault(2, "forge @top 1;");
        probe.journeyFault(2, "shave @joe;");
        probe.journeyFault(2, "shave @low;");
        // to where he is, and along no road: told, if not done
        Probe.same("can be told", probe.journey("go pia low;go pia top;"), 0);
    }

    private static void cutOrWrongAnywhere() {
        String whole = "go pia mid ;forge bob 20;\nshave sal;week;go bob top;";
        Probe.cutAnywhere(whole, text -> Probe.of(LAND).journey(text));
        for (String wrong : new String[] {",", "12345", "abcdefghi", "X", "town", "at", "(", "<", ";"}) {
            Probe.wrongAnywhere(whole, wrong, text -> Probe.of(LAND).journey(text));
        }
    }

    private static void firstTokenLeastKind() {
        Probe probe = Probe.of(LAND);
        probe.journeyFault(2, "go @joe joe;,");
        probe.journeyFault(4, "forge pia @0,");
        probe.journeyFault(2, "forge @joe 0;");
        probe.journeyFault(1, "week@,week;");
    }

    // "likewise": "0, or its FAULT (all stays then)"
    private static void refused() {
        String[] wrong = {"@,", "week@", "week;go @joe mid;", "week;week;forge pia @21;", "week;".repeat(40) + "@week;"};
        int[] kinds = {1, 1, 2, 4, 5};
        for (int i = 0; i < wrong.length; i++) {
            Twin twin = Twin.of(LAND);
            twin.both(probe -> {
                probe.journey("forge pia 2;go pia top;go pia mid;");
                probe.pass.mark(1, false);
                probe.pass.week();
                probe.pass.go(2, 2);
                probe.pass.see(1, true);
            });
            twin.refuses("refused: " + wrong[i], wrong[i].replace("@", ""), BeardPass::journey, kinds[i] + 16 * wrong[i].indexOf('@'));
        }
    }

    // "A JOURNEY is the JOURNEY.": nothing else changes by it
    private static void becomesTheJourney() {
        Probe probe = Probe.of(LAND);
        BeardPass pass = probe.pass;
        pass.week();
        pass.forge(0, 2);
        pass.see(1, true);
        pass.mark(1, false);
        Probe.same("three lines", probe.journey("week;week;week;"), 0);
        Probe.same("two lines", probe.journey("shave pia;week;"), 0);
        int[] counts = {3, 3, 5, 3, 1, 3, 2, 103, 2, 1, 2, 0};
        for (int what = 0; what < counts.length; what++) {
            Probe.same("by a journey, count " + what, pass.count(what), counts[what]);
        }
        Probe.same("an empty one", probe.journey(""), 0);
        Probe.same("no lines", pass.count(8), 0);
        Probe.same("undo is there", pass.undo(), true);
        Probe.same("the mark is there", pass.mark(1, true), true);
        Probe.same("as it was then", pass.count(6), 2);
    }

    private static void withoutALand() {
        Probe probe = new Probe();
        Probe.same("weeks", probe.journey("week;".repeat(40)), 0);
        Probe.same("can be", probe.pass.judged(0), -1);
        Probe.same("none comes anywhere", probe.pass.judged(1), -1);
        Probe.same("no money", probe.pass.judged(2), 0);
        probe.journeyFault(2, "go @pia mid;");
        probe.journeyFault(2, "forge @pia 1;");
        probe.journeyFault(2, "shave @pia;");
    }

    // "lines (NONE: none)"
    private static void noLines() {
        Probe probe = Probe.of(LAND);
        Probe.same("no line that can't be", probe.pass.judged(0), -1);
        Probe.same("no line to the most", probe.pass.judged(1), -1);
        Probe.same("no money", probe.pass.judged(2), 0);
        judged(probe, "", -1, -1, 0);
        judged(probe, "go pia mid;go pia low;", -1, -1, 0);
    }

    // "-2: others"
    private static void otherWhats() {
        Probe probe = Probe.of(LAND);
        for (int what : new int[] {-1, 3, -2, 4, Integer.MIN_VALUE, Integer.MAX_VALUE}) {
            Probe.same("judged " + what, probe.pass.judged(what), -2);
            Probe.same("judged " + what + " of nothing", new BeardPass().judged(what), -2);
        }
    }

    // "the first line (from 0) that can't be"
    private static void firstThatCannotBe() {
        judged(Probe.of(LAND), "go pia top;", 0, -1, 0);
        judged(Probe.of(LAND), "go pia low;", 0, -1, 0);
        judged(Probe.of(LAND), "shave pia;go pia mid;", 1, -1, 0);
        judged(Probe.of(LAND), "week;forge sal 1;go pia top;", 1, -1, 0);
        judged(Probe.of(LAND), "forge pia 13;forge pia 1;", 1, -1, 39);
        judged(Probe.of(LAND), "forge bob 20;forge bob 1;", 1, -1, 60);
        judged(Probe.of(LAND), "week;".repeat(39) + "forge sal 1;", 39, -1, 0);
        judged(Probe.of(LAND.replace("purse 60", "purse 99")), "forge bob 19;forge bob 2;forge bob 1;", 1, -1, 60);
    }

    // "a line that can't be is left out"
    private static void leftOut() {
        // pia is not at mid, as the first line can't be
        judged(Probe.of(LAND), "shave pia;go pia mid;go pia top;week;week;go pia mid;go pia low;", 1, -1, 0);
        judged(Probe.of(LAND), "forge pia 14;forge pia 13;", 0, -1, 39);
        judged(Probe.of(LAND), "go bob low;go bob top;go sal mid;go sal top;go bob mid;go bob top;", 1, 5, 0);
    }

    private static void oneLineBehindAnother() {
        // 9 and 2 * 5 inches are too few for top, 9 and 3 * 5 are enough
        judged(Probe.of(LAND), "go pia mid;week;week;go pia top;week;go pia top;", 3, 5, 0);
        judged(Probe.of(LAND), "go pia mid;go pia top;forge pia 12;go pia top;shave pia;go pia mid;", 1, 3, 36);
        judged(Probe.of(LAND), "go sal mid;go sal top;go bob top;go sal mid;go sal top;", 4, 1, 0);
    }

    // "a shave, a week always can"
    private static void alwaysCanBe() {
        judged(Probe.of(LAND), "shave sal;shave sal;shave bob;shave pia;week;shave pia;week;", -1, -1, 0);
        judged(Probe.of(LAND), "week;".repeat(40), -1, -1, 0);
    }

    // "the first one by which one comes to a TOWN that asks for the most of all"
    private static void comesToTheMost() {
        judged(Probe.of(LAND), "go bob top;", -1, 0, 0);
        judged(Probe.of(LAND), "go pia mid;go bob top;go bob mid;go bob top;", -1, 1, 0);
        // 9 + 11 inches are too few, 9 + 12 are enough
        judged(Probe.of(LAND), "go pia mid;forge pia 11;go pia top;forge pia 1;go pia top;", 2, 4, 36);
        // who is there comes only when he comes back
        judged(Probe.of(LAND.replace("bishop at mid", "bishop at top")), "week;go bob mid;week;go bob top;", -1, 3, 0);
        judged(Probe.of(LAND.replace("bishop at mid", "bishop at top")), "go bob top;", 0, -1, 0);
        judged(Probe.of(LAND), "week;".repeat(39) + "go bob top;", -1, 39, 0);
    }

    private static void equalMosts() {
        Probe flat = Probe.of("town a asks 0;town b asks 0;town c asks 0;road a b;road b c;person p plain at a beard 0 purse 0;");
        judged(flat, "week;go p b;go p c;", -1, 1, 0);
        Probe two = Probe.of("town a asks 7;town b asks 3;town c asks 7;road a b;road b c;person p plain at a beard 9 purse 0;");
        judged(two, "go p b;go p c;", -1, 1, 0);
        judged(two, "go p b;go p a;", -1, 1, 0);
        Probe first = Probe.of("town a asks 7;town b asks 3;road a b;person p plain at b beard 9 purse 0;");
        judged(first, "week;go p a;go p b;", -1, 1, 0);
        Probe last = Probe.of("town a asks 3;town b asks 7;road a b;person p plain at a beard 9 purse 0;");
        judged(last, "go p b;go p a;", -1, 0, 0);
    }

    // "money that was spent, together"
    private static void moneyTogether() {
        judged(Probe.of(LAND), "forge pia 1;forge bob 2;forge pia 3;forge bob 4;", -1, -1, 30);
        judged(Probe.of(LAND), "forge pia 13;shave pia;forge bob 20;shave bob;forge bob 1;", 4, -1, 99);
        judged(Probe.of(LAND), "forge pia 14;forge bob 1;", 0, -1, 3);
    }

    // "the JOURNEY from the beginning": not from how it is now
    private static void fromTheBeginning() {
        Probe probe = Probe.of(LAND);
        probe.pass.shave(0);
        probe.pass.go(2, 2);
        probe.pass.forge(2, 20);
        probe.pass.week();
        judged(probe, "go pia mid;forge bob 20;go bob top;", -1, 2, 60);
    }

    private static void asking() {
        Twin twin = Twin.of(LAND);
        twin.both(probe -> {
            probe.journey("forge pia 2;week;go bob top;shave pia;go pia mid;");
            probe.pass.mark(0, false);
            probe.pass.week();
            probe.pass.shave(0);
        });
        twin.stays("judged asks alone", pass -> pass.judged(0) + pass.judged(1) * 10 + pass.judged(2) * 100, 4 + 20 + 600);
    }
}
