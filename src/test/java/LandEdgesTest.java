/** Edges of a LAND: promise 3, and the Terms of LAND, NAME and FAULTS. */
public final class LandEdgesTest {
    private static final String TWO = "town a asks 1;town b asks 2;";
    private static final String ONE = "person p plain at a beard 3 purse 4;";
    private static final String WHOLE = "grows 4;town a asks 1;\ntown b asks 20 ; inch 3;person p grey at b beard 3 purse 4;"
        + "road a b;reads not(long<asked)or 2*false-1=(weeks+0)and 1;person q smooth at a beard 0 purse 99;";

    public static void main(String[] args) {
        anyNumberOfLines();
        anyOrder();
        sixTowns();
        asks();
        roads();
        allRoads();
        sixPersons();
        kinds();
        beardAndPurse();
        growsAndInch();
        onceEach();
        keptWords();
        namesOfNone();
        noTwoAlike();
        cutOrWrongAnywhere();
        firstTokenLeastKind();
        refused();
        allIsAnew();
        oneLandBehindAnother();
        Probe.end("LandEdgesTest");
    }

    private static String towns(int many) {
        StringBuilder text = new StringBuilder();
        for (int i = 0; i < many; i++) {
            text.append("town t").append((char) ('a' + i)).append(" asks ").append(i).append(';');
        }
        return text.toString();
    }

    private static String persons(int many) {
        StringBuilder text = new StringBuilder();
        for (int i = 0; i < many; i++) {
            text.append("person p").append((char) ('a' + i)).append(" plain at ta beard ").append(i).append(" purse 1;");
        }
        return text.toString();
    }

    // "LAND: any number of"
    private static void anyNumberOfLines() {
        Probe probe = Probe.of(TWO);
        Probe.same("none", probe.land(""), 0);
        Probe.same("no town", probe.pass.count(0), 0);
        for (String line : new String[] {"town a asks 1;", "grows 1;", "inch 1;", "reads 1;"}) {
            Probe.same("one", probe.land(line), 0);
        }
        probe.landFault(1, "@;");
        probe.landFault(1, "grows 1;@;");
    }

    private static void anyOrder() {
        Probe probe = new Probe();
        Probe.same("reads, inch, grows first", probe.land("reads long;inch 3;grows 2;" + TWO + ONE + "road b a;town c asks 3;road c a;"), 0);
        Probe.same("three towns", probe.pass.count(0), 3);
        probe.landFault(2, "town a asks 1;road a @b;town b asks 2;");
        probe.landFault(2, "town b asks 1;road @a b;town a asks 2;");
        probe.landFault(2, "person p plain at @a beard 3 purse 4;town a asks 1;");
    }

    // "town: 6 at most, numbered as told"; "the words town of a seventh"
    private static void sixTowns() {
        Probe probe = Probe.of(towns(6));
        Probe.same("six", probe.pass.count(0), 6);
        for (int i = 0; i < 6; i++) {
            Probe.same("as told", probe.pass.town(i, 0), i);
        }
        Probe.same("no seventh", probe.pass.town(6, 0), -1);
        probe.landFault(5, towns(6) + "@town x asks 1;");
        probe.landFault(5, towns(6) + "@town");
        probe.landFault(5, towns(6) + "@town ta asks 31;");
        Probe.same("other lines behind six", probe.land(towns(6) + persons(1) + "road ta tf;grows 1;inch 1;reads 1;"), 0);
    }

    // "asks 0 to 30"
    private static void asks() {
        Probe probe = new Probe();
        for (int asks = 0; asks <= 30; asks++) {
            Probe.same("asks " + asks, probe.land("town a asks " + asks + ";"), 0);
            Probe.same("asks " + asks, probe.pass.town(0, 0), asks);
        }
        probe.landFault(4, "town a asks @31;");
        probe.landFault(4, "town a asks @100;");
        probe.landFault(1, "town a asks @-1;");
    }

    // "road: two TOWNS told, not the same, each pair once"
    private static void roads() {
        Probe probe = Probe.of(TWO + "town c asks 1;road b c;");
        Probe.same("of a", probe.pass.town(0, 1), 0);
        Probe.same("of b", probe.pass.town(1, 1), 4);
        Probe.same("of c", probe.pass.town(2, 1), 2);
        probe.landFault(3, TWO + "road a @a;");
        probe.landFault(3, TWO + "road b @b;");
        probe.landFault(3, TWO + "road a b;road a @b;");
        probe.landFault(3, TWO + "road a b;road b @a;");
        probe.landFault(3, TWO + "road b a;road b @a;");
        probe.landFault(2, TWO + "road @c c;");
        probe.landFault(2, TWO + "road a @c;");
        Probe.same("another pair", probe.land(TWO + "town c asks 1;road a b;road a c;road c b;"), 0);
    }

    private static void allRoads() {
        StringBuilder text = new StringBuilder(towns(6));
        for (char i = 'a'; i <= 'f'; i++) {
            for (char j = 'a'; j < i; j++) {
                text.append("road t").append(i).append(" t").append(j).append(';');
            }
        }
        Probe probe = Probe.of(text.toString());
        for (int i = 0; i < 6; i++) {
            Probe.same("to all others", probe.pass.town(i, 1), 63 - (1 << i));
        }
        for (char i = 'a'; i <= 'f'; i++) {
            Probe again = new Probe();
            for (char j = 'a'; j <= 'f'; j++) {
                again.landFault(3, text + "road t" + i + " @t" + j + ";");
            }
        }
    }

    // "person: 6 at most, numbered as told"; "person of a seventh"
    private static void sixPersons() {
        Probe probe = Probe.of(towns(1) + persons(6));
        Probe.same("six", probe.pass.count(1), 6);
        for (int i = 0; i < 6; i++) {
            Probe.same("as told", probe.pass.person(i, 2), i);
        }
        Probe.same("no seventh", probe.pass.person(6, 2), -1);
        probe.landFault(5, towns(1) + persons(6) + "@person x plain at ta beard 1 purse 1;");
        probe.landFault(5, towns(1) + persons(6) + "@person");
        probe.landFault(5, towns(1) + persons(6) + "@person pa king");
        Probe.same("other lines behind six", probe.land(towns(1) + persons(6) + "town x asks 1;road x ta;"), 0);
    }

    // "KIND: plain, smooth, bishop, grey; at a TOWN told"
    private static void kinds() {
        Probe probe = new Probe();
        String[] kinds = {"plain", "smooth", "bishop", "grey"};
        for (int kind = 0; kind < 4; kind++) {
            Probe.same(kinds[kind], probe.land(TWO + "person p " + kinds[kind] + " at b beard 1 purse 1;"), 0);
            Probe.same(kinds[kind], probe.pass.person(0, 0), kind);
            Probe.same("at b", probe.pass.person(0, 1), 1);
        }
        for (String other : new String[] {"king", "at", "a", "p", "plainly", "not", "7", ";", "long"}) {
            probe.landFault(1, TWO + "person p @" + other + " at b beard 1 purse 1;");
        }
        probe.landFault(2, TWO + "person p plain at @p beard 1 purse 1;");
        probe.landFault(2, TWO + "person p plain at @plains beard 1 purse 1;");
        probe.landFault(2, TWO + ONE + "person q plain at @p beard 1 purse 1;");
        probe.landFault(1, TWO + "person p plain at @plain beard 1 purse 1;");
        probe.landFault(1, TWO + "person p plain at @1 beard 1 purse 1;");
    }

    // "beard 0 to 30, purse 0 to 99"
    private static void beardAndPurse() {
        Probe probe = new Probe();
        for (int[] good : new int[][] {{0, 0}, {30, 99}, {0, 99}, {30, 0}, {17, 50}}) {
            String text = TWO + "person p plain at a beard " + good[0] + " purse " + good[1] + ";";
            Probe.same(text, probe.land(text), 0);
            Probe.same("beard", probe.pass.person(0, 2), good[0]);
            Probe.same("purse", probe.pass.person(0, 4), good[1]);
        }
        probe.landFault(4, TWO + "person p plain at a beard @31 purse 0;");
        probe.landFault(4, TWO + "person p smooth at a beard @31 purse 100;");
        probe.landFault(4, TWO + "person p plain at a beard 0 purse @100;");
        probe.landFault(1, TWO + "person p plain at a beard @-1 purse 0;");
        probe.landFault(1, TWO + "person p plain at a beard 0 purse @10000;");
    }

    // "grows 0 to 5 (1). inch 1 to 9 (2)."
    private static void growsAndInch() {
        Probe probe = new Probe();
        for (int grows = 0; grows <= 5; grows++) {
            Probe.same("grows " + grows, probe.land("grows " + grows + ";"), 0);
            Probe.same("grows " + grows, probe.pass.count(2), grows);
            Probe.same("inch as untold", probe.pass.count(3), 2);
        }
        for (int inch = 1; inch <= 9; inch++) {
            Probe.same("inch " + inch, probe.land("inch " + inch + ";"), 0);
            Probe.same("inch " + inch, probe.pass.count(3), inch);
            Probe.same("grows as untold", probe.pass.count(2), 1);
        }
        probe.landFault(4, "grows @6;");
        probe.landFault(4, "grows @9999;");
        probe.landFault(1, "grows @-1;");
        probe.landFault(4, "inch @0;");
        probe.landFault(4, "inch @0000;");
        probe.landFault(4, "inch @10;");
    }

    // "grows, inch, reads: once each"; "grows, inch, reads a second time"
    private static void onceEach() {
        Probe probe = new Probe();
        String[] once = {"grows 1;", "inch 1;", "reads 1;"};
        for (String first : once) {
            for (String second : once) {
                if (first.equals(second)) {
                    probe.landFault(3, first + "@" + second);
                    probe.landFault(3, first + TWO + "@" + second.replace("1;", ""));
                } else {
                    Probe.same("each", probe.land(first + second), 0);
                }
            }
        }
        Probe.same("once more in another land", probe.land("grows 1;inch 1;reads 1;"), 0);
        probe.landFault(4, "grows @6;grows 1;");
        Probe.same("once more behind a fault", probe.land("grows 1;"), 0);
        probe.landFault(1, "inch 1@inch 1;");
    }

    // "A NAME is another WORD than town, asks, ..."
    private static void keptWords() {
        for (String word : Probe.KEPT) {
            Probe probe = new Probe();
            probe.landFault(1, "town @" + word + " asks 1;");
            probe.landFault(1, TWO + "person @" + word + " plain at a beard 1 purse 1;");
            probe.landFault(1, TWO + "road @" + word + " a;");
            probe.landFault(1, TWO + "road a @" + word + ";");
            probe.landFault(1, TWO + "person p plain at @" + word + " beard 1 purse 1;");
            Probe.same("a longer one than " + word, probe.land("town x" + word + " asks 1;town " + word + "x asks 1;"), 0);
        }
        // the facts are no such words
        Probe facts = Probe.of("town long asks 5;town asked asks 9;person false plain at long beard 5 purse 1;"
            + "person weeks plain at asked beard 7 purse 1;road long asked;reads long=asked+false+weeks;");
        Probe.same("false passes at long", facts.pass.town(0, 2), 1);
        Probe.same("nobody at asked", facts.pass.town(1, 2), 0);
        Probe.same("as persons and towns", facts.journey("go weeks long;shave false;week;"), 0);
    }

    // "2 a NAME of no TOWN (behind road, its second, at ...)"
    private static void namesOfNone() {
        Probe probe = new Probe();
        probe.landFault(2, "road @a b;");
        probe.landFault(2, TWO + ONE + "road @p a;");
        probe.landFault(2, TWO + ONE + "road a @p;");
        probe.landFault(2, TWO + "road @aa b;");
        probe.landFault(2, TWO + "person p plain at @c beard 1 purse 1;");
        probe.landFault(2, "person p plain at @p beard 1 purse 1;");
        // names of the land that is are not told in this one
        Probe told = Probe.of(TWO + ONE);
        told.landFault(2, "road @a b;");
        Probe.same("and can be told", told.land(TWO + ONE), 0);
    }

    // "no two (TOWNS, PERSONS) are alike"; "3 a NAME told already"
    private static void noTwoAlike() {
        Probe probe = new Probe();
        probe.landFault(3, TWO + "town @a asks 1;");
        probe.landFault(3, TWO + "town @b asks 31;");
        probe.landFault(3, TWO + ONE + "person @p plain at a beard 1 purse 1;");
        probe.landFault(3, TWO + ONE + "person @p king");
        probe.landFault(3, TWO + ONE + "town @p asks 1;");
        probe.landFault(3, TWO + "person @a plain at a beard 1 purse 1;");
        Probe.same("but nearly", probe.land(TWO + ONE + "town aa asks 1;person pp plain at aa beard 1 purse 1;town ab asks 1;"), 0);
        Probe.same("nor by what stands before", probe.land("town p asks 0;town ap asks 1;town aap asks 2;town bp asks 3;town q asks 4;town aq asks 5;"
            + "road bp ap;"), 0);
        Probe.same("ap and bp", probe.pass.town(1, 1), 8);
    }

    // "1 it is none, or can't stand there"
    private static void cutOrWrongAnywhere() {
        Probe.cutAnywhere(WHOLE, text -> new Probe().land(text));
        for (String wrong : new String[] {",", "12345", "abcdefghi", "X", "week", "forge", "at"}) {
            Probe.wrongAnywhere(WHOLE, wrong, text -> new Probe().land(text));
        }
        String flat = TWO + ONE + "road a b;grows 1;inch 1;";
        for (String wrong : new String[] {";", "(", ")", "<", "=", "+", "-", "*", "and", "or", "not"}) {
            Probe.wrongAnywhere(flat, wrong, text -> new Probe().land(text));
        }
    }

    // "of the first token from the left that is wrong the least"
    private static void firstTokenLeastKind() {
        Probe probe = new Probe();
        probe.landFault(4, "town a asks @31;town a asks 1;");
        probe.landFault(3, TWO + "town @a asks 31;road x y;");
        probe.landFault(2, TWO + "road @x a;grows 9;,");
        probe.landFault(5, towns(6) + "@town ta asks 31;");
        probe.landFault(1, towns(6) + "@towns ta asks 31;");
        probe.landFault(4, "inch 1;grows @6,");
        probe.landFault(1, "inch 1@,inch 1;");
        probe.landFault(3, "inch 1;@inch,");
        probe.landFault(4, TWO + "person p plain at a beard @31 purse 100,");
    }

    // "0, or its FAULT (all stays then)"
    private static void refused() {
        String[] wrong = {"@,", "grows 1@,", "road @x y;", TWO + "town @b asks 1;", "town zz asks @31;", towns(6) + "@town x asks 1;",
            TWO + ONE + "grows 5;inch 9;reads 0;road a b@"};
        int[] kinds = {1, 1, 2, 3, 4, 5, 1};
        for (int i = 0; i < wrong.length; i++) {
            Twin twin = Twin.of(TWO + ONE + "road a b;grows 2;inch 1;reads not(long<asked-weeks);");
            twin.both(probe -> {
                probe.journey("week;go p b;forge p 2;");
                probe.pass.week();
                probe.pass.forge(0, 2);
                probe.pass.see(1, false);
                probe.pass.mark(2, false);
                probe.pass.go(0, 1);
            });
            twin.refuses("refused: " + wrong[i], wrong[i].replace("@", ""), BeardPass::land, kinds[i] + 16 * wrong[i].indexOf('@'));
        }
    }

    // "Without a FAULT a LAND is the LAND from then on: week 0, all at their TOWNS, ..."
    private static void allIsAnew() {
        Probe probe = Probe.of(TWO + ONE + "road a b;grows 2;inch 1;reads long;");
        BeardPass pass = probe.pass;
        probe.journey("week;");
        pass.week();
        pass.forge(0, 2);
        pass.go(0, 1);
        pass.see(1, false);
        for (int mark = 0; mark < 4; mark++) {
            pass.mark(mark, false);
        }
        Probe.same("the same towns", probe.land(TWO + ONE), 0);
        int[] counts = {2, 1, 1, 2, 0, 1, 0, 4, 0, 0, 0, 0};
        for (int what = 0; what < counts.length; what++) {
            Probe.same("anew, count " + what, pass.count(what), counts[what]);
        }
        int[] person = {0, 0, 3, 0, 4, 1};
        for (int what = 0; what < person.length; what++) {
            Probe.same("anew, person " + what, pass.person(0, what), person[what]);
        }
        Probe.same("no road", pass.town(0, 1), 0);
        Probe.same("asks as told", pass.town(1, 0), 2);
        Probe.same("reads as untold", pass.town(1, 2), 1);
        Probe.same("no journey", pass.judged(2), 0);
        Probe.same("all lengths", pass.lengths(0), 31);
        Probe.same("nothing to undo", pass.undo(), false);
        for (int mark = 0; mark < 4; mark++) {
            Probe.same("no mark", pass.mark(mark, true), false);
        }
        Probe.same("nothing at all", probe.land(""), 0);
        Probe.same("no person", pass.person(0, 1), -1);
        Probe.same("no town", pass.town(0, 0), -1);
        Probe.same("nobody anywhere", pass.count(5), 0);
        Probe.same("no money", pass.count(7), 0);
    }

    // nothing is left of the lands before, however many there were
    private static void oneLandBehindAnother() {
        Probe probe = new Probe();
        for (int i = 0; i < 450; i++) {
            Probe.same("a land of nothing", probe.pass.land(), 0);
        }
        Probe.same("the last one", probe.land("town a asks 3;person p plain at a beard 3 purse 4;"), 0);
        Probe.same("3 of 3", probe.pass.town(0, 2), 1);
        probe.pass.shave(0);
        Probe.same("0 of 3", probe.pass.town(0, 2), 0);
        Probe laws = new Probe();
        for (int i = 0; i < 80; i++) {
            String land = "town a asks 3;person p plain at a beard 3 purse 4;reads " + (i % 2 == 0 ? "long=asked" : "0") + ";";
            Probe.same("a law", laws.land(land), 0);
            Probe.same("as told last", laws.pass.town(0, 2), 1 - i % 2);
        }
    }
}
