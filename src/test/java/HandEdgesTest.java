import java.util.function.ToIntFunction;

/** Edges of what is done by hand and of how it is: promises 5 to 11, 33 and 34. */
public final class HandEdgesTest {
    private static final String LAND = "town low asks 3;town mid asks 9;town top asks 21;road low mid;road mid top;"
        + "person pia plain at low beard 8 purse 40;person sal smooth at low beard 4 purse 9;"
        + "person bob bishop at mid beard 0 purse 60;person guy grey at low beard 3 purse 0;inch 3;grows 5;";
    private static final int LEAST = Integer.MIN_VALUE;
    private static final int MOST = Integer.MAX_VALUE;

    public static void main(String[] args) {
        personOthers();
        townOthers();
        countOthers();
        refusedGoes();
        goesBothSides();
        beenThere();
        refusedForges();
        moneyBothSides();
        twentyForged();
        refusedShaves();
        razor();
        growsNothing();
        sixtyAtMost();
        smoothOnesDoNotGrow();
        weeksWithoutEnd();
        nothingUndone();
        eachUndone();
        lastSixteen();
        sixteenRoundAndRound();
        whatIsNotUndone();
        refusedMarks();
        eachMark();
        marksHold();
        marksStay();
        Probe.end("HandEdgesTest");
    }

    private static int bit(boolean so) {
        return so ? 1 : 0;
    }

    /** A land with a past, a mark, a journey and something seen. */
    private static Twin lived() {
        return Twin.of(LAND).both(probe -> {
            probe.journey("week;go pia mid;");
            probe.pass.see(1, false);
            probe.pass.mark(3, false);
            probe.pass.forge(0, 1);
            probe.pass.shave(1);
        });
    }

    private static void refused(String what, ToIntFunction<BeardPass> call, int due) {
        lived().stays(what, call, due);
    }

    // person: "NONE: others"
    private static void personOthers() {
        BeardPass pass = Probe.of(LAND).pass;
        for (int what = 0; what < 6; what++) {
            for (int person : new int[] {-1, 4, 5, 6, 32, LEAST, MOST}) {
                Probe.same("person " + person, pass.person(person, what), -1);
            }
            Probe.same("the last person", pass.person(3, what) != -1, true);
        }
        for (int what : new int[] {-1, 6, 7, LEAST, MOST}) {
            Probe.same("person's " + what, pass.person(0, what), -1);
            Probe.same("nobody's " + what, pass.person(-1, what), -1);
        }
    }

    // town: "NONE: others"
    private static void townOthers() {
        BeardPass pass = Probe.of(LAND).pass;
        for (int what = 0; what < 3; what++) {
            for (int town : new int[] {-1, 3, 4, 5, 6, 32, LEAST, MOST}) {
                Probe.same("town " + town, pass.town(town, what), -1);
            }
            Probe.same("the last town", pass.town(2, what) != -1, true);
        }
        for (int what : new int[] {-1, 3, 4, LEAST, MOST}) {
            Probe.same("town's " + what, pass.town(0, what), -1);
            Probe.same("nowhere's " + what, pass.town(-1, what), -1);
        }
    }

    // count: "NONE for another what"
    private static void countOthers() {
        BeardPass pass = Probe.of(LAND).pass;
        int[] due = {3, 4, 5, 3, 0, 3, 0, 109, 0, 0, 0, 0};
        for (int what = 0; what < due.length; what++) {
            Probe.same("count " + what, pass.count(what), due[what]);
        }
        for (int what : new int[] {-1, 12, 13, LEAST, MOST}) {
            Probe.same("count " + what, pass.count(what), -1);
        }
    }

    // go: "false: others, it can't be"
    private static void refusedGoes() {
        refused("no person -1", pass -> bit(pass.go(-1, 1)), 0);
        refused("no person 4", pass -> bit(pass.go(4, 1)), 0);
        refused("no person", pass -> bit(pass.go(LEAST, 1)), 0);
        refused("no person", pass -> bit(pass.go(MOST, 1)), 0);
        refused("no town -1", pass -> bit(pass.go(2, -1)), 0);
        refused("no town 3", pass -> bit(pass.go(2, 3)), 0);
        refused("no town 32 is town 0", pass -> bit(pass.go(2, 32)), 0);
        refused("no town", pass -> bit(pass.go(2, LEAST)), 0);
        refused("no town", pass -> bit(pass.go(2, MOST)), 0);
        refused("where he is", pass -> bit(pass.go(2, 1)), 0);
        refused("no road", pass -> bit(pass.go(0, 2)), 0);
        refused("a guard in the way", pass -> bit(pass.go(3, 1)), 0);
        refused("nobody speaks for her at top", pass -> bit(pass.go(1, 2)), 0);
    }

    private static void goesBothSides() {
        BeardPass pass = Probe.of(LAND).pass;
        Probe.same("8 of 9", pass.go(0, 1), false);
        Probe.same("one inch", pass.forge(0, 1), 37);
        Probe.same("9 of 9", pass.go(0, 1), true);
        Probe.same("grey, 3 of 4", pass.go(3, 1), false);
        pass.week();
        Probe.same("grey, 8 of 4", pass.go(3, 1), true);
        Probe.same("the other way", pass.go(3, 0), true);
        pass.shave(3);
        Probe.same("grey, 0 of 1, where he is", pass.go(3, 0), false);
        Probe.same("grey, 0 of 4", pass.go(3, 1), false);
        Probe.same("one after another", pass.count(10), 6);
    }

    // "he has been there then"
    private static void beenThere() {
        BeardPass pass = Probe.of(LAND).pass;
        Probe.same("only where he is", pass.person(2, 5), 2);
        pass.go(2, 2);
        Probe.same("there, too", pass.person(2, 5), 6);
        pass.go(2, 1);
        Probe.same("back", pass.person(2, 5), 6);
        pass.go(2, 0);
        Probe.same("everywhere", pass.person(2, 5), 7);
        Probe.same("not the others", pass.person(0, 5), 1);
        pass.undo();
        Probe.same("undone", pass.person(2, 5), 6);
    }

    // forge: "NONE: others, it can't be"
    private static void refusedForges() {
        refused("no person -1", pass -> pass.forge(-1, 1), -1);
        refused("no person 4", pass -> pass.forge(4, 1), -1);
        refused("no person", pass -> pass.forge(LEAST, 1), -1);
        refused("no person", pass -> pass.forge(MOST, 1), -1);
        refused("smooth", pass -> pass.forge(1, 1), -1);
        refused("no inch", pass -> pass.forge(0, 0), -1);
        refused("less than none", pass -> pass.forge(0, -1), -1);
        refused("less than none", pass -> pass.forge(0, LEAST), -1);
        refused("far too many", pass -> pass.forge(0, MOST), -1);
        // 1431655766 * 3 wraps to 2
        refused("wraps to little money", pass -> pass.forge(0, 1431655766), -1);
        refused("one inch too dear, 39 of 37", pass -> pass.forge(0, 13), -1);
        refused("no money", pass -> pass.forge(3, 1), -1);
        refused("21", pass -> pass.forge(2, 21), -1);
    }

    // "if there is the money"
    private static void moneyBothSides() {
        for (int inch = 1; inch <= 9; inch++) {
            for (int purse = 4 * inch - 1; purse <= 4 * inch + 1; purse++) {
                BeardPass pass = Probe.of("town a asks 0;person p plain at a beard 0 purse " + purse + ";inch " + inch + ";").pass;
                Probe.same("4 at " + inch + " of " + purse, pass.forge(0, 4), purse < 4 * inch ? -1 : purse - 4 * inch);
                Probe.same("inches", pass.person(0, 3), purse < 4 * inch ? 0 : 4);
                Probe.same("left", pass.person(0, 4), purse < 4 * inch ? purse : purse - 4 * inch);
            }
        }
        BeardPass poor = Probe.of("town a asks 0;person p plain at a beard 0 purse 0;inch 1;").pass;
        Probe.same("an empty purse", poor.forge(0, 1), -1);
    }

    // "no more than 20 are forged then"
    private static void twentyForged() {
        String land = "town a asks 0;person p plain at a beard 30 purse 99;inch 1;";
        Probe.same("20 at once", Probe.of(land).pass.forge(0, 20), 79);
        Probe.same("21 at once", Probe.of(land).pass.forge(0, 21), -1);
        for (int first = 1; first < 20; first++) {
            BeardPass pass = Probe.of(land).pass;
            pass.forge(0, first);
            Probe.same("21 in all", pass.forge(0, 21 - first), -1);
            Probe.same("20 in all", pass.forge(0, 20 - first), 79);
            Probe.same("no more", pass.forge(0, 1), -1);
            Probe.same("beard", pass.person(0, 2), 50);
            Probe.same("forged", pass.person(0, 3), 20);
        }
        for (String kind : new String[] {"bishop", "grey"}) {
            Probe.same(kind, Probe.of(land.replace("plain", kind)).pass.forge(0, 20), 79);
        }
        Probe.same("smooth", Probe.of(land.replace("plain", "smooth")).pass.forge(0, 1), -1);
    }

    // shave: "false: others"
    private static void refusedShaves() {
        for (int person : new int[] {-1, 4, 6, 32, LEAST, MOST}) {
            refused("no person " + person, pass -> bit(pass.shave(person)), 0);
        }
    }

    // "SHAVE: no beard, nothing forged is left."
    private static void razor() {
        BeardPass pass = Probe.of(LAND).pass;
        pass.forge(0, 5);
        for (int person = 0; person < 4; person++) {
            for (int again = 0; again < 2; again++) {
                Probe.same("shaved", pass.shave(person), true);
                Probe.same("no beard", pass.person(person, 2), 0);
                Probe.same("nothing forged", pass.person(person, 3), 0);
            }
        }
        Probe.same("each can be undone", pass.count(10), 9);
        Probe.same("no money comes back", pass.person(0, 4), 25);
        Probe.same("he stays", pass.person(0, 1), 0);
    }

    // "as many inches of beard more as it grows"
    private static void growsNothing() {
        BeardPass pass = Probe.of(LAND.replace("grows 5", "grows 0")).pass;
        Probe.same("a week", pass.week(), 1);
        Probe.same("none", pass.person(0, 2), 8);
        for (int grows = 1; grows <= 5; grows++) {
            BeardPass more = Probe.of(LAND.replace("grows 5", "grows " + grows)).pass;
            more.week();
            Probe.same("grows " + grows, more.person(0, 2), 8 + grows);
            Probe.same("grows " + grows, more.person(2, 2), grows);
            Probe.same("grows " + grows, more.person(3, 2), 3 + grows);
        }
    }

    // "60 at most, forged ones aside"
    private static void sixtyAtMost() {
        for (int beard = 28; beard <= 30; beard++) {
            BeardPass pass = Probe.of("town a asks 0;person p plain at a beard " + beard + " purse 40;grows 5;").pass;
            pass.forge(0, 20);
            for (int week = 1; week <= 8; week++) {
                pass.week();
                Probe.same("in week " + week, pass.person(0, 2), Math.min(60, beard + 5 * week) + 20);
                Probe.same("forged ones", pass.person(0, 3), 20);
            }
        }
        BeardPass one = Probe.of("town a asks 0;person p plain at a beard 30 purse 40;grows 1;").pass;
        for (int week = 1; week <= 32; week++) {
            one.week();
            Probe.same("in week " + week, one.person(0, 2), Math.min(60, 30 + week));
        }
        one.undo();
        one.undo();
        one.undo();
        Probe.same("undone to week 29", one.person(0, 2), 59);
    }

    // "all but smooth ones"
    private static void smoothOnesDoNotGrow() {
        BeardPass pass = Probe.of(LAND).pass;
        pass.week();
        Probe.same("smooth", pass.person(1, 2), 4);
        pass.shave(1);
        pass.week();
        Probe.same("smooth, shaved", pass.person(1, 2), 0);
    }

    private static void weeksWithoutEnd() {
        BeardPass pass = Probe.of(LAND).pass;
        for (int week = 1; week <= 400; week++) {
            Probe.same("week", pass.week(), week);
        }
        Probe.same("as counted", pass.count(4), 400);
    }

    // undo: "false: nothing can be"
    private static void nothingUndone() {
        Twin.of(LAND).stays("nothing done", pass -> bit(pass.undo()), 0);
        Twin twin = Twin.of(LAND).both(probe -> {
            probe.pass.week();
            probe.pass.undo();
        });
        twin.stays("all undone", pass -> bit(pass.undo()), 0);
        Probe.same("nothing told", new BeardPass().undo(), false);
    }

    // "UNDO: all of these"
    private static void eachUndone() {
        BeardPass pass = Probe.of(LAND).pass;
        Probe.same("week", pass.week(), 1);
        Probe.same("forge", pass.forge(0, 3), 31);
        Probe.same("go", pass.go(0, 1), true);
        Probe.same("shave", pass.shave(0), true);
        int[][] due = {{0, 0, 8, 0, 40, 1}, {0, 0, 13, 0, 40, 1}, {0, 0, 16, 3, 31, 1}, {0, 1, 16, 3, 31, 3}, {0, 1, 0, 0, 31, 3}};
        for (int step = 4; step >= 0; step--) {
            for (int what = 0; what < 6; what++) {
                Probe.same("behind step " + step + ", " + what, pass.person(0, what), due[step][what]);
            }
            Probe.same("the week", pass.count(4), step == 0 ? 0 : 1);
            Probe.same("undo", pass.undo(), step > 0);
        }
    }

    // "the last 16, one by one"
    private static void lastSixteen() {
        for (int done = 14; done <= 18; done++) {
            BeardPass pass = Probe.of(LAND).pass;
            for (int i = 0; i < done; i++) {
                pass.week();
            }
            int can = Math.min(16, done);
            Probe.same("can be undone", pass.count(10), can);
            for (int i = 1; i <= can; i++) {
                Probe.same("undo", pass.undo(), true);
                Probe.same("one by one", pass.count(4), done - i);
                Probe.same("left", pass.count(10), can - i);
            }
            Probe.same("no 17th", pass.undo(), false);
            Probe.same("it stays", pass.count(4), done - can);
        }
    }

    private static void sixteenRoundAndRound() {
        BeardPass pass = Probe.of(LAND).pass;
        for (int turn = 0; turn < 8; turn++) {
            for (int i = 0; i < 11; i++) {
                pass.week();
            }
            for (int i = 0; i < 5; i++) {
                Probe.same("undo", pass.undo(), true);
            }
            Probe.same("six more each turn", pass.count(4), 6 * (turn + 1));
        }
        Probe.same("eleven are left", pass.count(10), 11);
    }

    // what is no GO, FORGE, SHAVE or WEEK can't be undone, and undoes nothing
    private static void whatIsNotUndone() {
        Probe probe = Probe.of(LAND);
        BeardPass pass = probe.pass;
        pass.week();
        probe.journey("week;");
        pass.see(0, true);
        pass.mark(0, false);
        probe.feed("town");
        pass.years(1, 9, 0);
        Probe.same("the week alone", pass.count(10), 1);
        Probe.same("undone", pass.undo(), true);
        Probe.same("lines stay", pass.count(8), 1);
        Probe.same("seen stays", pass.count(9), 1);
        Probe.same("signs stay", pass.count(11), 4);
        Probe.same("the mark stays", pass.mark(0, true), true);
        Probe.same("in week 1", pass.count(4), 1);
        Probe.same("nothing more", pass.undo(), false);
    }

    // mark: "false: none such, nothing is on it (back)"
    private static void refusedMarks() {
        for (int mark : new int[] {-1, 4, 5, LEAST, MOST}) {
            refused("no mark " + mark, pass -> bit(pass.mark(mark, false)), 0);
            refused("no mark to go back to " + mark, pass -> bit(pass.mark(mark, true)), 0);
        }
        for (int mark = 0; mark < 3; mark++) {
            int empty = mark;
            refused("nothing is on " + mark, pass -> bit(pass.mark(empty, true)), 0);
        }
    }

    // "MARKS 0 to 3": each for itself
    private static void eachMark() {
        BeardPass pass = Probe.of(LAND).pass;
        for (int mark = 0; mark < 4; mark++) {
            Probe.same("nothing is on it", pass.mark(mark, true), false);
            Probe.same("laid", pass.mark(mark, false), true);
            pass.week();
        }
        for (int mark : new int[] {2, 0, 3, 1, 1}) {
            Probe.same("back", pass.mark(mark, true), true);
            Probe.same("in its week", pass.count(4), mark);
        }
        pass.week();
        Probe.same("laid over", pass.mark(1, false), true);
        pass.mark(0, true);
        Probe.same("back", pass.mark(1, true), true);
        Probe.same("in the later week", pass.count(4), 2);
    }

    // "hold how it is, the JOURNEY, what is SEEN (nothing can be undone when one is gone back to)"
    private static void marksHold() {
        Probe probe = Probe.of(LAND);
        BeardPass pass = probe.pass;
        probe.journey("forge pia 1;");
        pass.forge(0, 2);
        pass.go(0, 1);
        pass.see(1, true);
        pass.mark(0, false);
        Probe.same("laying leaves what can be undone", pass.count(10), 2);
        pass.shave(0);
        pass.week();
        pass.go(0, 2);
        probe.journey("forge pia 2;forge pia 3;");
        pass.see(0, true);
        pass.see(1, false);
        probe.feed("abc");
        Probe.same("back", pass.mark(0, true), true);
        int[] person = {0, 1, 10, 2, 34, 3};
        for (int what = 0; what < person.length; what++) {
            Probe.same("how it was, person " + what, pass.person(0, what), person[what]);
        }
        int[] counts = {3, 4, 5, 3, 0, 3, 2, 103, 1, 1, 0, 3};
        for (int what = 0; what < counts.length; what++) {
            Probe.same("how it was, count " + what, pass.count(what), counts[what]);
        }
        Probe.same("the journey", pass.judged(2), 3);
        Probe.same("what was seen", pass.lengths(0), 22);
        Probe.same("nothing can be undone", pass.undo(), false);
        pass.week();
        Probe.same("but what comes then", pass.undo(), true);
        Probe.same("and no more", pass.undo(), false);
    }

    private static void marksStay() {
        Probe probe = Probe.of(LAND);
        BeardPass pass = probe.pass;
        pass.mark(0, false);
        for (int i = 0; i < 20; i++) {
            pass.week();
        }
        while (pass.undo()) {
            pass.count(4);
        }
        probe.land("town,");
        Probe.same("behind undo and a fault", pass.mark(0, true), true);
        Probe.same("in week 0", pass.count(4), 0);
        pass.week();
        Probe.same("once more", pass.mark(0, true), true);
        Probe.same("in week 0", pass.count(4), 0);
        probe.land(LAND);
        Probe.same("not in another land", pass.mark(0, true), false);
    }
}
