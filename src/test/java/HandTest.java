/** Promises 5 to 12, 33 and 34: how it is, what is done by hand, journeys judged, marks, counts. */
public final class HandTest {
    private static final String LAND = "town low asks 3;town mid asks 9;town top asks 21;road low mid;road mid top;"
        + "person pia plain at low beard 7 purse 40;person sal smooth at low beard 4 purse 9;"
        + "person bob bishop at mid beard 0 purse 10;person guy grey at low beard 4 purse 0;"
        + "grows 5;inch 3;";

    public static void main(String[] args) {
        person();
        town();
        go();
        forge();
        shave();
        week();
        undo();
        judged();
        mark();
        count();
        Probe.end("HandTest");
    }

    private static void person() {
        BeardPass pass = Probe.of(LAND).pass;
        int[][] due = {{0, 0, 7, 0, 40, 1}, {1, 0, 4, 0, 9, 1}, {2, 1, 0, 0, 10, 2}, {3, 0, 4, 0, 0, 1}};
        for (int i = 0; i < due.length; i++) {
            for (int what = 0; what < 6; what++) {
                Probe.same("person " + i + " " + what, pass.person(i, what), due[i][what]);
            }
        }
        pass.forge(0, 3);
        Probe.same("with forged inches", pass.person(0, 2), 10);
        Probe.same("forged inches", pass.person(0, 3), 3);
        Probe.same("purse", pass.person(0, 4), 31);
        for (int[] others : new int[][] {{-1, 0}, {4, 0}, {0, -1}, {0, 6}, {1 << 31, 1 << 31}, {99, 5}}) {
            Probe.same("person others", pass.person(others[0], others[1]), -1);
        }
    }

    private static void town() {
        BeardPass pass = Probe.of(LAND).pass;
        // low lets pia, sal by pia, bob, guy; mid lets bob, guy (4 of 4), sal by guy; top lets bob
        int[][] due = {{3, 2, 15}, {9, 5, 14}, {21, 2, 4}};
        for (int i = 0; i < due.length; i++) {
            for (int what = 0; what < 3; what++) {
                Probe.same("town " + i + " " + what, pass.town(i, what), due[i][what]);
            }
        }
        Probe.same("guy goes", pass.go(3, 1), true);
        Probe.same("nobody speaks at mid", pass.town(1, 2), 12);
        for (int[] others : new int[][] {{-1, 0}, {3, 0}, {0, -1}, {0, 3}, {1 << 31, 2}}) {
            Probe.same("town others", pass.town(others[0], others[1]), -1);
        }
        Probe facts = Probe.of("town a asks 9;town b asks 2;road a b;person p plain at a beard 9 purse 9;"
            + "person g grey at a beard 4 purse 9;reads long - asked + false * 3 < weeks + 2 and not weeks = 1;");
        Probe.same("0 < 2 of p; 0 < 2 of g", facts.pass.town(0, 2), 3);
        Probe.same("7 < 2 of p; 3 < 2 of g", facts.pass.town(1, 2), 0);
        facts.pass.forge(0, 1);
        Probe.same("4 < 2", facts.pass.town(0, 2), 2);
        facts.pass.week();
        Probe.same("not in week 1", facts.pass.town(0, 2), 0);
        Probe wraps = Probe.of("town a asks 0;person p plain at a beard 2 purse 0;"
            + "reads 8192*8192*64 + 1;");
        Probe.same("2 to the 32nd is 0", wraps.pass.town(0, 2), 1);
        wraps.land("town a asks 0;person p plain at a beard 2 purse 0;reads 8192*8192*64;");
        Probe.same("2 to the 32nd is 0", wraps.pass.town(0, 2), 0);
        Probe high = Probe.of("town a asks 0;person p plain at a beard 2 purse 0;reads 8192*8192*32 < 0;");
        Probe.same("2 to the 31st is below 0", high.pass.town(0, 2), 1);
        left();
    }

    private static void left() {
        String one = "town a asks 0;person p plain at a beard 2 purse 0;reads ";
        String[] so = {"1 or 1 and 1;", "0 and 0 or 1;", "1-1-1;", "not 0 * 5;", "not(1<1);", "2*3=6;", "7 and 8;",
            "long;", "(7 and 8)=1;", "(not 7)=0;", "2+3*2=8;", "10-2-3=5;", "long<3 and 1;", "not long < asked + 1;", "(1<2)=1;", "(2=2)=1;", "(0 or 3)=1;",
            "(not 0)=1;", "(1<1)+(1=2)+(0 and 1)+(0 or 0)=0;"};
        String[] not = {"1 or 1 and 0;", "false;", "asked;", "weeks;", "0-0;", "not 7;", "7 and 0;", "1 or 0 and 0;",
            "3<3;", "3=4;", "10-(2-3)=5;"};
        String deepest = "long";
        for (int i = 0; i < 5; i++) {
            deepest = "0 or 0<0+1*" + (i == 0 ? deepest : "(" + deepest + ")");
        }
        Probe.same(deepest, Probe.of(one + deepest + ";").pass.town(0, 2), 1);
        Probe.same(deepest, Probe.of(one + deepest.replace("long", "false") + ";").pass.town(0, 2), 0);
        String longest = "long" + "+1".repeat(450) + "=";
        Probe.same("the longest law", Probe.of(one + longest + "452;").pass.town(0, 2), 1);
        Probe.same("the longest law", Probe.of(one + longest + "451;").pass.town(0, 2), 0);
        for (String law : so) {
            Probe.same(law, Probe.of(one + law).pass.town(0, 2), 1);
        }
        for (String law : not) {
            Probe.same(law, Probe.of(one + law).pass.town(0, 2), 0);
        }
    }

    private static void go() {
        BeardPass pass = Probe.of(LAND).pass;
        Probe.same("a guard in the way", pass.go(0, 1), false);
        Probe.same("no road", pass.go(3, 2), false);
        Probe.same("where he is", pass.go(3, 0), false);
        Probe.same("nothing done", pass.count(10), 0);
        Probe.same("sal by guy", pass.go(1, 1), true);
        Probe.same("she is there", pass.person(1, 1), 1);
        Probe.same("she has been", pass.person(1, 5), 3);
        Probe.same("bob speaks for the capital", pass.go(1, 2), true);
        Probe.same("nobody speaks", pass.go(1, 1), false);
        Probe.same("no person", pass.go(-1, 0), false);
        Probe.same("no person", pass.go(4, 0), false);
        Probe.same("no town", pass.go(2, 3), false);
        Probe.same("no town", pass.go(2, -1), false);
        Probe.same("no town", pass.go(2, 33), false);
        Probe.same("bishop", pass.go(2, 2), true);
        Probe.same("sal by bob", pass.go(1, 1), true);
        Probe.same("been in all", pass.person(1, 5), 7);
    }

    private static void forge() {
        BeardPass pass = Probe.of(LAND).pass;
        Probe.same("smooth", pass.forge(1, 1), -1);
        Probe.same("no money", pass.forge(3, 1), -1);
        Probe.same("bishop", pass.forge(2, 3), 1);
        Probe.same("no inches", pass.forge(0, 0), -1);
        Probe.same("less", pass.forge(0, -1), -1);
        Probe.same("too dear", pass.forge(0, 14), -1);
        Probe.same("all but one", pass.forge(0, 13), 1);
        Probe.same("two behind", pass.count(10), 2);
        Probe.same("no person", pass.forge(4, 1), -1);
        Probe.same("no person", pass.forge(-1, 1), -1);
        Probe.same("wraps", pass.forge(0, Integer.MAX_VALUE), -1);
        Probe.same("wraps", pass.forge(0, Integer.MIN_VALUE), -1);
        BeardPass rich = Probe.of("town a asks 0;person p plain at a beard 0 purse 99;inch 1;").pass;
        Probe.same("21", rich.forge(0, 21), -1);
        Probe.same("19", rich.forge(0, 19), 80);
        Probe.same("21 in all", rich.forge(0, 2), -1);
        Probe.same("20 in all", rich.forge(0, 1), 79);
        rich.shave(0);
        Probe.same("20 anew", rich.forge(0, 20), 59);
    }

    private static void shave() {
        BeardPass pass = Probe.of(LAND).pass;
        pass.forge(0, 2);
        Probe.same("shave", pass.shave(0), true);
        Probe.same("no beard", pass.person(0, 2), 0);
        Probe.same("nothing forged", pass.person(0, 3), 0);
        Probe.same("purse stays", pass.person(0, 4), 34);
        Probe.same("shave again", pass.shave(0), true);
        Probe.same("smooth", pass.shave(1), true);
        Probe.same("smooth one's", pass.person(1, 2), 0);
        Probe.same("four to undo", pass.count(10), 4);
        Probe.same("no person", pass.shave(4), false);
        Probe.same("no person", pass.shave(-1), false);
        Probe.same("four to undo yet", pass.count(10), 4);
    }

    private static void week() {
        BeardPass pass = Probe.of(LAND).pass;
        pass.forge(0, 2);
        Probe.same("week", pass.week(), 1);
        Probe.same("grown", pass.person(0, 2), 14);
        Probe.same("forged stay", pass.person(0, 3), 2);
        Probe.same("smooth", pass.person(1, 2), 4);
        Probe.same("bishop", pass.person(2, 2), 5);
        for (int i = 2; i <= 10; i++) {
            Probe.same("week", pass.week(), i);
        }
        Probe.same("57 and 2", pass.person(0, 2), 59);
        pass.week();
        Probe.same("60 and 2", pass.person(0, 2), 62);
        pass.week();
        Probe.same("60 and 2", pass.person(0, 2), 62);
        Probe.same("60", pass.person(2, 2), 60);
        for (int i = 13; i <= 300; i++) {
            Probe.same("week", pass.week(), i);
        }
    }

    private static void undo() {
        BeardPass pass = Probe.of(LAND).pass;
        Probe.same("nothing", pass.undo(), false);
        pass.week();
        pass.forge(0, 1);
        pass.go(0, 1);
        pass.shave(0);
        pass.see(0, true);
        Probe.same("four", pass.count(10), 4);
        Probe.same("shave undone", pass.undo(), true);
        Probe.same("beard", pass.person(0, 2), 13);
        Probe.same("forged", pass.person(0, 3), 1);
        Probe.same("go undone", pass.undo(), true);
        Probe.same("place", pass.person(0, 1), 0);
        Probe.same("been", pass.person(0, 5), 1);
        Probe.same("forge undone", pass.undo(), true);
        Probe.same("purse", pass.person(0, 4), 40);
        Probe.same("week undone", pass.undo(), true);
        Probe.same("beard", pass.person(0, 2), 7);
        Probe.same("no week", pass.count(4), 0);
        Probe.same("nothing", pass.undo(), false);
        Probe.same("seen stays", pass.count(9), 1);
        for (int i = 0; i < 21; i++) {
            pass.week();
        }
        Probe.same("16 at most", pass.count(10), 16);
        for (int i = 20; i > 4; i--) {
            Probe.same("undone", pass.undo(), true);
            Probe.same("week", pass.count(4), i);
        }
        Probe.same("no more", pass.undo(), false);
        Probe.same("week 5", pass.week(), 6);
        Probe.same("one", pass.count(10), 1);
    }

    private static void judged() {
        Probe probe = Probe.of(LAND);
        BeardPass pass = probe.pass;
        Probe.same("no journey, line", pass.judged(0), -1);
        Probe.same("no journey, strictest", pass.judged(1), -1);
        Probe.same("no journey, money", pass.judged(2), 0);
        pass.week();
        pass.go(2, 2);
        pass.shave(0);
        probe.journey("forge pia 2; go pia mid; go sal mid; go pia top; forge pia 12; forge pia 11; week; "
            + "go pia top; go bob top; forge bob 3; shave sal;");
        // pia has 7 + 2 + 11 inches in week 0, 25 in week 1
        Probe.same("first that can't be", pass.judged(0), 3);
        Probe.same("first to the strictest", pass.judged(1), 7);
        Probe.same("money", pass.judged(2), 6 + 33 + 9);
        Probe.same("others", pass.judged(3), -2);
        Probe.same("others", pass.judged(-1), -2);
        Probe.same("week stays", pass.count(4), 1);
        Probe.same("place stays", pass.person(2, 1), 2);
        Probe.same("purse stays", pass.person(0, 4), 40);
        Probe.same("undo stays", pass.count(10), 3);
        probe.journey("shave guy;week;shave sal;");
        Probe.same("all can be", pass.judged(0), -1);
        Probe.same("none comes", pass.judged(1), -1);
        probe.journey("go pia top; go pia mid;");
        Probe.same("strictest only if it can be", pass.judged(1), -1);
        Probe flat = Probe.of("town a asks 4;town b asks 4;road a b;person p plain at a beard 4 purse 0;");
        flat.journey("week;go p b;go p a;");
        Probe.same("equal ones ask for the most, too", flat.pass.judged(1), 1);
    }

    private static void mark() {
        Probe probe = Probe.of(LAND);
        BeardPass pass = probe.pass;
        for (int i = 0; i < 4; i++) {
            Probe.same("nothing on it", pass.mark(i, true), false);
        }
        Probe.same("none such", pass.mark(4, false), false);
        Probe.same("none such", pass.mark(-1, false), false);
        Probe.same("none such", pass.mark(4, true), false);
        Probe.same("none such", pass.mark(-1, true), false);
        probe.journey("week;");
        pass.week();
        pass.see(1, false);
        Probe.same("laid", pass.mark(3, false), true);
        Probe.same("undo is there yet", pass.count(10), 1);
        pass.week();
        pass.forge(0, 2);
        pass.go(0, 1);
        probe.journey("week;week;");
        pass.see(1, true);
        Probe.same("no length", pass.lengths(0), 0);
        probe.feed("week");
        Probe.same("laid", pass.mark(0, false), true);
        Probe.same("back", pass.mark(3, true), true);
        int[] due = {3, 4, 5, 3, 1, 3, 0, 59, 1, 1, 0, 4};
        for (int what = 0; what < due.length; what++) {
            Probe.same("back at 3, count " + what, pass.count(what), due[what]);
        }
        Probe.same("lengths", pass.lengths(0), 9);
        Probe.same("beard", pass.person(0, 2), 12);
        Probe.same("been", pass.person(0, 5), 1);
        pass.shave(0);
        Probe.same("back again", pass.mark(3, true), true);
        Probe.same("beard", pass.person(0, 2), 12);
        Probe.same("not undone", pass.undo(), false);
        Probe.same("to the other", pass.mark(0, true), true);
        Probe.same("week", pass.count(4), 2);
        Probe.same("lines", pass.count(8), 2);
        Probe.same("seen", pass.count(9), 2);
        Probe.same("laid anew", pass.mark(3, false), true);
        pass.shave(0);
        Probe.same("back", pass.mark(3, true), true);
        Probe.same("beard", pass.person(0, 2), 19);
    }

    private static void count() {
        Probe probe = Probe.of(LAND);
        BeardPass pass = probe.pass;
        probe.journey("go pia mid;week;");
        pass.week();
        pass.forge(0, 4);
        pass.forge(2, 1);
        pass.see(2, false);
        probe.feed("town");
        int[] due = {3, 4, 5, 3, 1, 3, 5, 44, 2, 1, 3, 4};
        for (int what = 0; what < due.length; what++) {
            Probe.same("count " + what, pass.count(what), due[what]);
        }
        pass.go(2, 2);
        Probe.same("peopled", pass.count(5), 5);
        for (int what : new int[] {-1, 12, Integer.MIN_VALUE, Integer.MAX_VALUE}) {
            Probe.same("count of another", pass.count(what), -1);
        }
    }
}
