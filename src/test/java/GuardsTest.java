/** Promises 25 to 29, 31 and 32: guards compared, the unread one, a frontier at rest, years. */
public final class GuardsTest {
    private static final String LAND = "town a asks 4;town b asks 12;town c asks 20;town d asks 12;road a b;road b c;"
        + "person p plain at a beard 12 purse 9;person g grey at b beard 6 purse 9;grows 3;";

    public static void main(String[] args) {
        strict();
        alike();
        seeAndLengths();
        seenInItsWeek();
        ask();
        rests();
        years();
        Probe.end("GuardsTest");
    }

    private static void strict() {
        BeardPass pass = Probe.of(LAND).pass;
        Probe.same("c", pass.strict(), 2);
        pass.shave(0);
        pass.shave(1);
        Probe.same("of equal ones the first", pass.strict(), 0);
        Probe.same("no town", Probe.of("").pass.strict(), -1);
        Probe.same("nobody", Probe.of("town a asks 0;town b asks 9;").pass.strict(), 0);
    }

    private static void alike() {
        BeardPass pass = Probe.of(LAND).pass;
        // a, b and d let both through
        Probe.same("three pairs", pass.alike(), 3);
        pass.shave(1);
        Probe.same("three pairs yet", pass.alike(), 3);
        pass.shave(0);
        Probe.same("all", pass.alike(), 6);
        Probe.same("no town", Probe.of("").pass.alike(), 0);
        // as many, but not the same ones: p by b alone, q by a alone
        BeardPass many = Probe.of("town a asks 4;town b asks 5;person p plain at a beard 5 purse 0;"
            + "person q plain at a beard 4 purse 0;reads long=asked;").pass;
        Probe.same("not by how many", many.alike(), 0);
    }

    private static void seeAndLengths() {
        BeardPass pass = Probe.of(LAND).pass;
        lengths(pass, 31, 0, 30);
        Probe.same("others", pass.lengths(3), -1);
        Probe.same("others", pass.lengths(-1), -1);
        Probe.same("no town", pass.see(4, true), false);
        Probe.same("no town", pass.see(-1, true), false);
        Probe.same("a let him", pass.see(0, true), true);
        lengths(pass, 27, 4, 30);
        Probe.same("c did not", pass.see(2, false), true);
        lengths(pass, 16, 4, 19);
        Probe.same("twice the same", pass.see(2, false), true);
        lengths(pass, 16, 4, 19);
        Probe.same("three seen", pass.count(9), 3);
        Probe.same("a did not", pass.see(0, false), true);
        lengths(pass, 0, -1, -1);
        for (int i = 4; i < 8; i++) {
            Probe.same("see", pass.see(1, true), true);
        }
        Probe.same("8 there are", pass.see(1, true), false);
        Probe.same("eight", pass.count(9), 8);
        BeardPass ends = Probe.of("town a asks 30;town b asks 0;reads long=asked;").pass;
        ends.see(0, true);
        lengths(ends, 1, 30, 30);
        BeardPass none = Probe.of("town a asks 30;town b asks 0;reads long=asked;").pass;
        none.see(1, true);
        lengths(none, 1, 0, 0);
        BeardPass forged = Probe.of("town a asks 9;reads false;").pass;
        forged.see(0, false);
        lengths(forged, 31, 0, 30);
        forged.see(0, true);
        lengths(forged, 0, -1, -1);
    }

    private static void lengths(BeardPass pass, int many, int least, int greatest) {
        Probe.same("how many", pass.lengths(0), many);
        Probe.same("the least", pass.lengths(1), least);
        Probe.same("the greatest", pass.lengths(2), greatest);
    }

    private static void seenInItsWeek() {
        BeardPass pass = Probe.of("town a asks 4;town b asks 12;reads not (long + weeks * 5 < asked);").pass;
        Probe.same("b did not in week 0", pass.see(1, false), true);
        lengths(pass, 12, 0, 11);
        pass.week();
        lengths(pass, 12, 0, 11);
        Probe.same("in week 1 b asks for 7", pass.ask(), 1);
        Probe.same("b did in week 1", pass.see(1, true), true);
        lengths(pass, 5, 7, 11);
        pass.undo();
        lengths(pass, 5, 7, 11);
        Probe.same("in week 0 none parts them", pass.ask(), -1);
    }

    private static void ask() {
        BeardPass pass = Probe.of(LAND).pass;
        // of 31: a 27, b 19, c 20, d 19
        Probe.same("b, the first", pass.ask(), 1);
        pass.see(1, true);
        Probe.same("c", pass.ask(), 2);
        pass.see(2, true);
        Probe.same("none parts them", pass.ask(), -1);
        pass.see(2, false);
        Probe.same("no length", pass.ask(), -1);
        Probe.same("no town", Probe.of("").pass.ask(), -1);
    }

    private static void rests() {
        Probe probe = new Probe();
        Probe.same("0 0 how many", probe.rests(0, 0, -1), 3);
        int[] due = {0, 1, 3};
        for (int i = 0; i < 3; i++) {
            Probe.same("0 0, " + i, probe.rests(0, 0, i), due[i]);
        }
        Probe.same("0 0, 3", probe.rests(0, 0, 3), -9);
        // waving costs: forging pays, so only reading one who forges rests, if he loses nothing
        Probe.same("0 1 how many", probe.rests(0, 1, -1), 1);
        Probe.same("0 1, 0", probe.rests(0, 1, 0), 3);
        Probe.same("0 9, 1", probe.rests(0, 9, 1), -9);
        // waving costs nothing: growing and waving rests
        Probe.same("1 0 how many", probe.rests(1, 0, -1), 1);
        Probe.same("1 0, 0", probe.rests(1, 0, 0), 0);
        Probe.same("9 0, 0", probe.rests(9, 0, 0), 0);
        Probe.same("1 1 how many", probe.rests(1, 1, -1), 0);
        Probe.same("1 1, 0", probe.rests(1, 1, 0), -9);
        Probe.same("9 9 how many", probe.rests(9, 9, -1), 0);
        int[][] others = {{-1, 0, -1}, {10, 0, -1}, {0, -1, -1}, {0, 10, -1}, {0, 0, -2},
            {0, 0, Integer.MIN_VALUE}, {0, 0, Integer.MAX_VALUE}};
        for (int[] other : others) {
            Probe.same("others", probe.rests(other[0], other[1], other[2]), -9);
        }
    }

    private static void years() {
        Probe probe = Probe.of("town a asks 0;town b asks 5;road a b;person p plain at a beard 4 purse 3;"
            + "person q bishop at a beard 4 purse 3;");
        BeardPass pass = probe.pass;
        // by seed 1: 16838 is even, 5758 no shave; 10113 odd: q goes to b, 17515 no shave (as rand() of old)
        Probe.same("week 1, goes", pass.years(1, 1, 0), 1);
        Probe.same("week 1, barred", pass.years(1, 1, 1), 0);
        Probe.same("week 1, towns", pass.years(1, 1, 2), 3);
        // 31051: p goes to b with 5 inches; 5627; 23010: q goes back to a; 7419
        Probe.same("week 2, goes", pass.years(1, 2, 0), 3);
        Probe.same("week 2, towns", pass.years(1, 2, 2), 3);
        // 16212: p goes to a; 4086; 2749: q goes to b; 12767
        Probe.same("week 3, goes", pass.years(1, 3, 0), 5);
        Probe.same("week stays", pass.count(4), 0);
        Probe.same("nothing undone", pass.count(10), 0);
        Probe.same("place stays", pass.person(1, 1), 0);
        Probe slow = Probe.of("town a asks 0;town b asks 30;road a b;person p plain at a beard 4 purse 3;grows 0;");
        // 16838, 5758; 10113, 17515; 31051, 5627: two are odd, and the guard is in the way
        Probe.same("barred", slow.pass.years(1, 3, 1), 2);
        Probe.same("none goes", slow.pass.years(1, 3, 0), 0);
        Probe.same("where he is", slow.pass.years(1, 3, 2), 1);
        int[][] others = {{-1, 1, 0}, {10000, 1, 0}, {0, 0, 0}, {0, 100, 0}, {0, 1, -1}, {0, 1, 3}};
        for (int[] other : others) {
            Probe.same("others", pass.years(other[0], other[1], other[2]), -1);
        }
        Probe.same("edges", pass.years(9999, 99, 0) >= 0, true);
        Probe.same("edges", pass.years(0, 1, 2) >= 0, true);
    }
}
