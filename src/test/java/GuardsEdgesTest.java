import java.util.ArrayList;
import java.util.List;

/** Edges of guards compared, the unread one, a frontier at rest and years: promises 25 to 29, 31 and 32. */
public final class GuardsEdgesTest {
    private static final int LEAST = Integer.MIN_VALUE;
    private static final int MOST = Integer.MAX_VALUE;

    public static void main(String[] args) {
        strictNone();
        strictFirstOfEqual();
        strictAsTheyStand();
        alikeNone();
        alikeAll();
        alikeTheSameOnes();
        eightSeen();
        seeOthers();
        lengthsAtFirst();
        lengthsFrom0To30();
        noLength();
        lengthsOthers();
        noneForged();
        seenOfAPlainOne();
        seenNow();
        askNone();
        askTheLeast();
        askFirstOfEqual();
        askNow();
        restsOfAll();
        restsOthers();
        yearsOthers();
        yearsOfNobody();
        yearsGo();
        yearsBarred();
        yearsShave();
        yearsWeeks();
        yearsByNumbers();
        yearsFromNow();
        asking();
        Probe.end("GuardsEdgesTest");
    }

    private static BeardPass of(String land) {
        return Probe.of(land).pass;
    }

    private static void lengths(BeardPass pass, int many, int least, int greatest) {
        Probe.same("how many", pass.lengths(0), many);
        Probe.same("the least", pass.lengths(1), least);
        Probe.same("the greatest", pass.lengths(2), greatest);
    }

    // strict: "NONE: no TOWN"
    private static void strictNone() {
        Probe.same("nothing told", new BeardPass().strict(), -1);
        Probe.same("no town", of("").strict(), -1);
        Probe.same("one town, nobody", of("town a asks 1;").strict(), 0);
    }

    // "of equal ones the first"
    private static void strictFirstOfEqual() {
        String three = "town a asks 4;town b asks 8;town c asks 8;";
        Probe.same("nobody", of(three).strict(), 0);
        Probe.same("let by all", of(three + "person p plain at a beard 8 purse 0;").strict(), 0);
        Probe.same("let by a alone", of(three + "person p plain at a beard 7 purse 0;").strict(), 1);
        Probe.same("let by none", of(three + "person p plain at a beard 3 purse 0;").strict(), 0);
        StringBuilder six = new StringBuilder(three);
        for (char name = 'k'; name < 'q'; name++) {
            six.append("person ").append(name).append(" bishop at b beard 0 purse 0;");
        }
        Probe.same("six, let by all", of(six.toString()).strict(), 0);
    }

    // "of all PERSONS as they stand, the fewest (roads aside)"
    private static void strictAsTheyStand() {
        BeardPass pass = of("town a asks 0;town b asks 5;town c asks 9;town d asks 7;person p plain at a beard 5 purse 9;person q plain at a beard 7 purse 9;"
            + "person s smooth at a beard 0 purse 0;");
        Probe.same("c lets nobody through", pass.strict(), 2);
        pass.forge(0, 4);
        // a, b: three; c: p and s by him; d: three
        Probe.same("c still", pass.strict(), 2);
        pass.shave(0);
        pass.shave(1);
        Probe.same("b, the first to let nobody through", pass.strict(), 1);
    }

    private static void alikeNone() {
        Probe.same("nothing told", new BeardPass().alike(), 0);
        Probe.same("no town", of("").alike(), 0);
        Probe.same("one town", of("town a asks 1;person p plain at a beard 1 purse 0;").alike(), 0);
        Probe.same("two towns, not alike", of("town a asks 1;town b asks 2;person p plain at a beard 1 purse 0;").alike(), 0);
    }

    private static void alikeAll() {
        StringBuilder text = new StringBuilder();
        for (int towns = 1; towns <= 6; towns++) {
            text.append("town t").append((char) ('a' + towns)).append(" asks ").append(towns).append(';');
            Probe.same("nobody parts " + towns, of(text.toString()).alike(), towns * (towns - 1) / 2);
        }
        // asks 1 to 6: 3 let him through, 3 do not
        Probe.same("three and three", of(text + "person p plain at tb beard 3 purse 0;").alike(), 6);
    }

    // "whose guards let through the same ones"
    private static void alikeTheSameOnes() {
        BeardPass pass = of("town a asks 4;town b asks 5;town c asks 4;person p plain at a beard 5 purse 0;person q plain at a beard 4 purse 0;"
            + "reads long=asked;");
        Probe.same("a and c", pass.alike(), 1);
        pass.shave(0);
        pass.shave(1);
        Probe.same("all", pass.alike(), 3);
    }

    // "8 at most"; see: "false: ... 8 there are"
    private static void eightSeen() {
        BeardPass pass = of("town a asks 9;");
        for (int i = 0; i < 8; i++) {
            Probe.same("see", pass.see(0, true), true);
            Probe.same("seen", pass.count(9), i + 1);
        }
        Probe.same("no ninth", pass.see(0, true), false);
        Probe.same("eight", pass.count(9), 8);
        Twin twin = Twin.of("town a asks 9;").both(probe -> {
            for (int i = 0; i < 8; i++) {
                probe.pass.see(0, true);
            }
            probe.pass.mark(0, false);
        });
        twin.stays("a ninth, though it would part them", full -> full.see(0, false) ? 1 : 0, 0);
        BeardPass back = of("town a asks 9;");
        back.mark(0, false);
        for (int i = 0; i < 8; i++) {
            back.see(0, true);
        }
        back.mark(0, true);
        Probe.same("room again", back.see(0, false), true);
        lengths(back, 9, 0, 8);
    }

    // see: "false: others"
    private static void seeOthers() {
        for (int town : new int[] {-1, 2, 6, 32, LEAST, MOST}) {
            for (boolean let : new boolean[] {false, true}) {
                Twin twin = Twin.of("town a asks 9;town b asks 3;").both(probe -> {
                    probe.pass.see(0, true);
                    probe.pass.mark(0, false);
                    probe.pass.week();
                });
                twin.stays("no town " + town, pass -> pass.see(town, let) ? 1 : 0, 0);
            }
        }
        Probe.same("nothing told", new BeardPass().see(0, true), false);
    }

    private static void lengthsAtFirst() {
        lengths(new BeardPass(), 31, 0, 30);
        lengths(of("town a asks 9;"), 31, 0, 30);
    }

    // "0 to 30 inches"
    private static void lengthsFrom0To30() {
        for (int asks = 0; asks <= 30; asks++) {
            BeardPass let = of("town a asks " + asks + ";");
            let.see(0, true);
            lengths(let, 31 - asks, asks, 30);
            BeardPass not = of("town a asks " + asks + ";");
            not.see(0, false);
            lengths(not, asks, asks == 0 ? -1 : 0, asks == 0 ? -1 : asks - 1);
            BeardPass exact = of("town a asks " + asks + ";reads long=asked;");
            exact.see(0, true);
            lengths(exact, 1, asks, asks);
        }
        BeardPass ends = of("town a asks 0;reads 0<long and long<30;");
        ends.see(0, false);
        lengths(ends, 2, 0, 30);
        BeardPass beyond = of("town a asks 0;reads 30<long;");
        beyond.see(0, true);
        lengths(beyond, 0, -1, -1);
    }

    // lengths: "NONE: others, no LENGTH (but 0)"
    private static void noLength() {
        BeardPass pass = of("town a asks 9;");
        pass.see(0, true);
        pass.see(0, false);
        lengths(pass, 0, -1, -1);
        Probe.same("two seen", pass.count(9), 2);
        pass.see(0, true);
        lengths(pass, 0, -1, -1);
    }

    private static void lengthsOthers() {
        BeardPass pass = of("town a asks 9;");
        for (int what : new int[] {-1, 3, 4, LEAST, MOST}) {
            Probe.same("lengths " + what, pass.lengths(what), -1);
        }
    }

    // "none of them forged"
    private static void noneForged() {
        BeardPass pass = of("town a asks 9;person p plain at a beard 3 purse 9;reads false=0 and long=asked;");
        pass.forge(0, 2);
        pass.see(0, true);
        lengths(pass, 1, 9, 9);
    }

    // "an unread plain one": no half of what is asked, nobody speaks
    private static void seenOfAPlainOne() {
        BeardPass pass = of("town a asks 9;person g grey at a beard 4 purse 0;person o bishop at a beard 0 purse 0;");
        pass.see(0, true);
        lengths(pass, 22, 9, 30);
    }

    // "let ... through, or did not, ..., now": by the week in which it was
    private static void seenNow() {
        BeardPass pass = of("town a asks 10;grows 5;reads not(long+weeks<asked);");
        pass.week();
        pass.week();
        pass.see(0, true);
        lengths(pass, 23, 8, 30);
        pass.week();
        lengths(pass, 23, 8, 30);
        pass.see(0, false);
        lengths(pass, 0, -1, -1);
        pass.undo();
        pass.undo();
        Probe.same("undo leaves it", pass.count(9), 2);
        lengths(pass, 0, -1, -1);
    }

    // ask: "NONE: none parts them"
    private static void askNone() {
        Probe.same("nothing told", new BeardPass().ask(), -1);
        Probe.same("no town", of("").ask(), -1);
        Probe.same("all let all through", of("town a asks 0;").ask(), -1);
        Probe.same("none lets any through", of("town a asks 0;reads 0;").ask(), -1);
        Probe.same("one of 31", of("town a asks 1;").ask(), 0);
        Probe.same("one of 31", of("town a asks 30;").ask(), 0);
        BeardPass one = of("town a asks 9;town b asks 10;");
        one.see(0, true);
        one.see(1, false);
        lengths(one, 1, 9, 9);
        Probe.same("one length", one.ask(), -1);
        one.see(0, false);
        Probe.same("no length", one.ask(), -1);
        BeardPass two = of("town a asks 9;town b asks 11;town c asks 10;");
        two.see(0, true);
        two.see(1, false);
        lengths(two, 2, 9, 10);
        Probe.same("two lengths", two.ask(), 2);
    }

    // "the greater number of LENGTHS by which its guard lets him through, or does not, is the least"
    private static void askTheLeast() {
        // of 31: 5 lets 26 through; 25 does not 25; 14 lets 17 through; 17 does not 17; 16 does not 16
        Probe.same("25 before 26", of("town a asks 5;town b asks 25;").ask(), 1);
        Probe.same("17 before 26", of("town a asks 5;town b asks 25;town c asks 14;").ask(), 2);
        Probe.same("16 before 17", of("town a asks 14;town b asks 17;town c asks 16;").ask(), 2);
        BeardPass rest = of("town a asks 10;town b asks 14;town c asks 20;");
        rest.see(0, false);
        Probe.same("none of 0 to 9 is parted", rest.ask(), -1);
        BeardPass upper = of("town a asks 10;town b asks 14;town c asks 20;");
        upper.see(0, true);
        // of 21: b lets 17 through, c 11
        Probe.same("of 10 to 30", upper.ask(), 2);
    }

    private static void askFirstOfEqual() {
        Probe.same("15 and 16, twice", of("town a asks 0;town b asks 15;town c asks 16;").ask(), 1);
        Probe.same("16 and 15, twice", of("town a asks 16;town b asks 15;").ask(), 0);
        Probe.same("the same guard", of("town a asks 7;town b asks 7;").ask(), 0);
    }

    private static void askNow() {
        BeardPass pass = of("town a asks 3;town b asks 15;reads not(long<asked+weeks*9);");
        Probe.same("in week 0", pass.ask(), 1);
        pass.week();
        // a asks for 12, b for 24
        Probe.same("in week 1", pass.ask(), 0);
        pass.week();
        pass.week();
        pass.week();
        Probe.same("in week 4", pass.ask(), -1);
    }

    // "RESTS: by which neither would get more by the other"
    private static void restsOfAll() {
        Probe probe = new Probe();
        for (int reading = 0; reading <= 9; reading++) {
            for (int waving = 0; waving <= 9; waving++) {
                List<Integer> due = new ArrayList<>();
                int[][] guard = {{0, -waving}, {-1, reading}};
                int[][] traveller = {{0, waving}, {0, -reading}};
                for (int g = 0; g < 2; g++) {
                    for (int t = 0; t < 2; t++) {
                        if (guard[g][t] >= guard[1 - g][t] && traveller[g][t] >= traveller[g][1 - t]) {
                            due.add(2 * g + t);
                        }
                    }
                }
                String of = "rests of " + reading + ", " + waving;
                Probe.same(of, probe.rests(reading, waving, -1), due.size());
                for (int i = 0; i < due.size(); i++) {
                    Probe.same(of + ", " + i, probe.rests(reading, waving, i), due.get(i));
                }
                Probe.same(of + ", one more", probe.rests(reading, waving, due.size()), -9);
            }
        }
        // as the document's own words tell them
        Probe.same("nothing at stake", probe.rests(0, 0, -1), 3);
        Probe.same("he waves, one grows", probe.rests(0, 0, 0), 0);
        Probe.same("he waves, one forges", probe.rests(0, 0, 1), 1);
        Probe.same("he reads, one forges", probe.rests(0, 0, 2), 3);
        Probe.same("he waves, one grows, and never one who forges", probe.rests(9, 0, 0), 0);
        Probe.same("he reads, one forges, who loses nothing", probe.rests(0, 9, 0), 3);
        Probe.same("never at rest", probe.rests(9, 9, -1), 0);
    }

    // rests: "NoSuchElementException: others, none such"
    private static void restsOthers() {
        Probe probe = new Probe();
        for (int other : new int[] {-1, 10, LEAST, MOST}) {
            for (int what : new int[] {-1, 0}) {
                Probe.same("reading " + other, probe.rests(other, 0, what), -9);
                Probe.same("waving " + other, probe.rests(0, other, what), -9);
            }
        }
        for (int what : new int[] {-2, 3, 4, LEAST, MOST}) {
            Probe.same("what " + what, probe.rests(0, 0, what), -9);
        }
        Twin twin = Twin.of("town a asks 1;person p plain at a beard 1 purse 1;").both(both -> both.pass.week());
        twin.stays("thrown", pass -> twin.one.rests(0, 0, 3), -9);
    }

    // years: "a SEED (0 to 9999)", "so many WEEKS (1 to 99)", "NONE: others"
    private static void yearsOthers() {
        BeardPass pass = of("town a asks 0;town b asks 0;road a b;person p plain at a beard 0 purse 0;");
        for (int what = 0; what < 3; what++) {
            for (int other : new int[] {-1, 10000, LEAST, MOST}) {
                Probe.same("seed " + other, pass.years(other, 1, what), -1);
            }
            for (int other : new int[] {-1, 0, 100, LEAST, MOST}) {
                Probe.same("weeks " + other, pass.years(0, other, what), -1);
            }
            for (int seed : new int[] {0, 9999}) {
                Probe.same("the edges", pass.years(seed, 1, what) >= 0 && pass.years(seed, 99, what) >= 0, true);
            }
        }
        for (int what : new int[] {-1, 3, 4, LEAST, MOST}) {
            Probe.same("what " + what, pass.years(0, 1, what), -1);
        }
    }

    private static void yearsOfNobody() {
        for (String land : new String[] {"", "town a asks 0;", "town a asks 0;town b asks 0;road a b;"}) {
            for (int what = 0; what < 3; what++) {
                Probe.same("nobody", of(land).years(5, 99, what), 0);
            }
        }
        BeardPass one = of("town a asks 0;person o bishop at a beard 0 purse 0;");
        Probe.same("nowhere to go", one.years(5, 99, 0), 0);
        Probe.same("no road is barred", one.years(5, 99, 1), 0);
        Probe.same("he stays", one.years(5, 99, 2), 1);
    }

    /** What a DRAW gives, as the document tells it. */
    private static final class Draws {
        private long g;

        Draws(int seed) {
            g = seed;
        }

        int below(int m) {
            g = (g * 1103515245L + 12345L) % 2147483648L;
            return (int) (g / 65536 % m);
        }
    }

    // "a DRAW below TOWNS: he GOES there, if he can"
    private static void yearsGo() {
        // of seed 0 g is 12345, and 0 when cut: town 0; then 1406932606: 21468, 8 below 20
        BeardPass first = of("town a asks 0;town b asks 0;road a b;person o bishop at b beard 0 purse 0;");
        Probe.same("by hand, goes", first.years(0, 1, 0), 1);
        Probe.same("by hand, barred", first.years(0, 1, 1), 0);
        Probe.same("by hand, at a", first.years(0, 1, 2), 1);
        BeardPass pass = of("town a asks 0;town b asks 0;town c asks 0;road a b;road b c;person o bishop at a beard 0 purse 0;");
        for (int seed : new int[] {0, 1, 2, 77, 4096, 9998, 9999}) {
            for (int weeks : new int[] {1, 2, 3, 50, 98, 99}) {
                Draws draws = new Draws(seed);
                int at = 0;
                int gone = 0;
                for (int i = 0; i < weeks; i++) {
                    int town = draws.below(3);
                    draws.below(20);
                    if (Math.abs(town - at) == 1) {
                        at = town;
                        gone++;
                    }
                }
                String of = "seed " + seed + ", weeks " + weeks;
                Probe.same(of + ", goes", pass.years(seed, weeks, 0), gone);
                Probe.same(of + ", barred", pass.years(seed, weeks, 1), 0);
                Probe.same(of + ", where", pass.years(seed, weeks, 2), 1 << at);
            }
        }
    }

    // "how many could not be (by a road, the guard in the way)"
    private static void yearsBarred() {
        // of a plain one nobody lets through: b is barred, a is where he is, to c no road leads from a
        BeardPass pass = of("town a asks 0;town b asks 0;town c asks 0;road a b;road b c;person p plain at a beard 0 purse 0;reads 0;");
        for (int seed = 0; seed < 20; seed++) {
            Draws draws = new Draws(seed);
            int barred = 0;
            for (int i = 0; i < 9; i++) {
                barred += draws.below(3) == 1 ? 1 : 0;
                draws.below(20);
            }
            Probe.same("barred by seed " + seed, pass.years(seed, 9, 1), barred);
            Probe.same("goes by seed " + seed, pass.years(seed, 9, 0), 0);
            Probe.same("where by seed " + seed, pass.years(seed, 9, 2), 1);
        }
    }

    // "a DRAW below 20: 0: he is SHAVED"
    private static void yearsShave() {
        BeardPass pass = of("town a asks 5;town b asks 5;road a b;person p plain at a beard 5 purse 0;grows 0;");
        int shaved = 0;
        for (int seed = 0; seed < 60; seed++) {
            Draws draws = new Draws(seed);
            boolean beard = true;
            int at = 0;
            int gone = 0;
            int barred = 0;
            for (int i = 0; i < 12; i++) {
                int town = draws.below(2);
                gone += beard && town != at ? 1 : 0;
                barred += !beard && town != at ? 1 : 0;
                at = beard ? town : at;
                beard &= draws.below(20) != 0;
            }
            shaved += beard ? 0 : 1;
            Probe.same("goes by seed " + seed, pass.years(seed, 12, 0), gone);
            Probe.same("barred by seed " + seed, pass.years(seed, 12, 1), barred);
            Probe.same("where by seed " + seed, pass.years(seed, 12, 2), 1 << at);
        }
        Probe.same("some were shaved, some not", shaved > 5 && shaved < 55, true);
    }

    // "then the WEEK": it grows, and the week is read
    private static void yearsWeeks() {
        BeardPass pass = of("town a asks 0;town b asks 0;road a b;person p plain at a beard 0 purse 0;grows 2;reads weeks=3 or long=2*5;");
        pass.week();
        for (int seed = 0; seed < 40; seed++) {
            Draws draws = new Draws(seed);
            int beard = 2;
            int at = 0;
            int gone = 0;
            for (int week = 1; week <= 9; week++) {
                int town = draws.below(2);
                if (town != at && (week == 3 || beard == 10)) {
                    at = town;
                    gone++;
                }
                beard = draws.below(20) == 0 ? 2 : beard + 2;
            }
            Probe.same("goes by seed " + seed, pass.years(seed, 9, 0), gone);
            Probe.same("where by seed " + seed, pass.years(seed, 9, 2), 1 << at);
        }
    }

    // "for each PERSON, by numbers": she may go by one who comes before her, not by one who has left
    private static void yearsByNumbers() {
        BeardPass pass = of("town a asks 0;town b asks 0;road a b;person o bishop at a beard 0 purse 0;person s smooth at b beard 0 purse 0;");
        for (int seed = 0; seed < 40; seed++) {
            Draws draws = new Draws(seed);
            int[] at = {0, 1};
            int[] tally = {0, 0};
            for (int week = 0; week < 9; week++) {
                for (int person = 0; person < 2; person++) {
                    int town = draws.below(2);
                    draws.below(20);
                    if (town != at[person]) {
                        boolean can = person == 0 || at[0] == at[1];
                        at[person] = can ? town : at[person];
                        tally[can ? 0 : 1]++;
                    }
                }
            }
            Probe.same("goes by seed " + seed, pass.years(seed, 9, 0), tally[0]);
            Probe.same("barred by seed " + seed, pass.years(seed, 9, 1), tally[1]);
            Probe.same("where by seed " + seed, pass.years(seed, 9, 2), 1 << at[0] | 1 << at[1]);
        }
    }

    // "from now on (all is as ahead then)"
    private static void yearsFromNow() {
        BeardPass pass = of("town a asks 0;town b asks 9;road a b;person p plain at a beard 0 purse 99;inch 1;grows 0;");
        Probe.same("barred alone", pass.years(1, 20, 0), 0);
        pass.forge(0, 9);
        Probe.same("he goes now", pass.years(1, 20, 0) > 0, true);
        Probe.same("the same once more", pass.years(1, 20, 0), pass.years(1, 20, 0));
        pass.undo();
        Probe.same("barred alone again", pass.years(1, 20, 0), 0);
    }

    private static void asking() {
        Twin twin = Twin.of("town a asks 0;town b asks 3;town c asks 9;road a b;road b c;person p plain at a beard 4 purse 9;"
            + "person s smooth at a beard 0 purse 0;person o bishop at c beard 0 purse 0;");
        twin.both(probe -> {
            probe.journey("week;go p b;");
            probe.pass.see(1, true);
            probe.pass.mark(0, false);
            probe.pass.week();
            probe.pass.go(0, 1);
        });
        twin.stays("all of these ask alone", GuardsEdgesTest::askAll, 0);
    }

    private static int askAll(BeardPass pass) {
        for (int seed = 0; seed < 20; seed++) {
            pass.years(seed, 99, seed % 3);
        }
        pass.strict();
        pass.alike();
        pass.ask();
        pass.lengths(0);
        pass.rests(0, 0, -1);
        return 0;
    }
}
