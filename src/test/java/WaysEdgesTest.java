/** Edges of who may go where, when and by how many inches: promises 13 to 24 and 30. */
public final class WaysEdgesTest {
    /** A line of six: a - b - c - d - e - f. */
    private static final String LINE = "town a asks 0;town b asks 1;town c asks 2;town d asks 3;town e asks 4;town f asks 5;"
        + "road a b;road b c;road c d;road d e;road e f;";
    private static final String TWO = "town a asks 0;town b asks 9;road a b;";
    private static final int LEAST = Integer.MIN_VALUE;
    private static final int MOST = Integer.MAX_VALUE;

    public static void main(String[] args) {
        noPersonNoTown();
        reachWhereHeIs();
        reachOneBehindAnother();
        reachBySpeakers();
        frontiersFrom0To5();
        frontiersNotNow();
        guideNone();
        guideFirstOfEqual();
        whenAtOnce();
        whenBy99();
        whenFromNow();
        whenHeGoesBetween();
        whenAllBeardsGrow();
        whenOthersStay();
        when60AtMost();
        roundAtOnce();
        roundWhereHeHasBeen();
        roundBy99();
        roundHeWaitsElsewhere();
        roundOfNoWay();
        needNone();
        needTwentyInAll();
        needMoneyAside();
        needOfOtherKinds();
        needTheFewest();
        debtBothSides();
        cheapestNone();
        cheapestFirstOfEqual();
        trapped();
        shaven();
        meetingNone();
        meetingFirstOfEqual();
        meetingTheLast();
        meetingAlone();
        meetingOthers();
        speakersThere();
        speakersNone();
        stricterFrom0To9();
        stricterAll();
        asking();
        Probe.end("WaysEdgesTest");
    }

    private static BeardPass of(String land) {
        return Probe.of(land).pass;
    }

    private static String plain(String name, String town, int beard, int purse) {
        return "person " + name + " plain at " + town + " beard " + beard + " purse " + purse + ";";
    }

    // "NONE: others" of each
    private static void noPersonNoTown() {
        BeardPass pass = of(TWO + plain("p", "a", 9, 9) + "person s smooth at a beard 0 purse 0;");
        for (int none : new int[] {-1, 2, 6, 32, LEAST, MOST}) {
            for (int town : new int[] {-1, 0, 1, 2}) {
                int[] answers = {pass.reach(none), pass.round(none), pass.cheapest(none), pass.shaven(none), pass.frontiers(none, town),
                    pass.when(none, town), pass.need(none, town), pass.guide(none, town), pass.debt(none, town), pass.speakers(none, town)};
                for (int i = 0; i < answers.length; i++) {
                    Probe.same("no person " + none + ", " + i, answers[i], -1);
                }
            }
            for (int person = 0; person < 2; person++) {
                int[] answers = {pass.frontiers(person, none), pass.when(person, none), pass.need(person, none), pass.guide(person, none),
                    pass.debt(person, none), pass.speakers(person, none), pass.stricter(none, person)};
                for (int i = 0; i < answers.length; i++) {
                    Probe.same("no town " + none + ", " + i, answers[i], -1);
                }
            }
        }
    }

    // "(the one where he is, too)"
    private static void reachWhereHeIs() {
        BeardPass pass = of("town a asks 30;town b asks 30;road a b;" + plain("p", "b", 0, 0) + "person s smooth at a beard 0 purse 0;");
        Probe.same("though its guard would not let him", pass.reach(0), 2);
        Probe.same("smooth", pass.reach(1), 1);
        Probe.same("one town", of("town a asks 30;" + plain("p", "a", 0, 0)).reach(0), 1);
    }

    // "one GO behind another"
    private static void reachOneBehindAnother() {
        for (int beard = 0; beard <= 6; beard++) {
            BeardPass pass = of(LINE + plain("p", "a", beard, 0));
            Probe.same("with " + beard, pass.reach(0), (1 << Math.min(6, beard + 1)) - 1);
        }
        BeardPass gap = of("town a asks 0;town b asks 9;town c asks 0;road a b;road b c;" + plain("p", "a", 8, 0));
        Probe.same("c lies behind b", gap.reach(0), 1);
        gap.week();
        Probe.same("in a week", gap.reach(0), 7);
    }

    private static void reachBySpeakers() {
        BeardPass first = of(LINE + "person o bishop at a beard 0 purse 0;person s smooth at a beard 0 purse 0;");
        Probe.same("by the first person", first.reach(1), 3);
        BeardPass last = of(LINE + "person s smooth at a beard 0 purse 0;person o bishop at a beard 0 purse 0;");
        Probe.same("by the last person", last.reach(0), 3);
        BeardPass none = of(LINE + "person s smooth at a beard 30 purse 0;person o bishop at b beard 0 purse 0;person t smooth at a beard 30 purse 0;");
        Probe.same("by nobody", none.reach(0), 1);
        none.go(1, 0);
        Probe.same("by one who came", none.reach(0), 3);
    }

    // "FRONTIERS (0: he is there)"
    private static void frontiersFrom0To5() {
        BeardPass pass = of(LINE + plain("p", "a", 9, 0) + plain("q", "f", 9, 0));
        for (int town = 0; town < 6; town++) {
            Probe.same("from a to " + town, pass.frontiers(0, town), town);
            Probe.same("from f to " + town, pass.frontiers(1, town), 5 - town);
        }
        BeardPass ring = of(LINE + "road f a;" + plain("p", "a", 9, 0));
        int[] due = {0, 1, 2, 3, 2, 1};
        for (int town = 0; town < 6; town++) {
            Probe.same("round to " + town, ring.frontiers(0, town), due[town]);
        }
    }

    // frontiers: "NONE: others, not now"
    private static void frontiersNotNow() {
        BeardPass pass = of(LINE + plain("p", "b", 3, 99));
        int[] due = {1, 0, 1, 2, -1, -1};
        for (int town = 0; town < 6; town++) {
            Probe.same("to " + town, pass.frontiers(0, town), due[town]);
        }
        BeardPass strict = of("town a asks 30;town b asks 30;" + plain("p", "a", 0, 0));
        Probe.same("there, whatever its guard says", strict.frontiers(0, 0), 0);
        Probe.same("no road", strict.frontiers(0, 1), -1);
    }

    // guide: "NONE: others, he is there, not now"
    private static void guideNone() {
        BeardPass pass = of(LINE + plain("p", "c", 4, 0));
        int[] due = {1, 1, -1, 3, 3, -1};
        for (int town = 0; town < 6; town++) {
            Probe.same("to " + town, pass.guide(0, town), due[town]);
        }
        BeardPass edges = of(LINE + plain("p", "b", 9, 0) + plain("q", "e", 9, 0));
        Probe.same("to the first town", edges.guide(0, 0), 0);
        Probe.same("to the last town", edges.guide(1, 5), 5);
        BeardPass noReturn = of("town a asks 9;town b asks 0;road a b;" + plain("p", "a", 0, 0));
        Probe.same("he is there, and could not come back", noReturn.guide(0, 0), -1);
        Probe.same("he could go", noReturn.guide(0, 1), 1);
    }

    // "of equal ones the first"
    private static void guideFirstOfEqual() {
        String star = "town goal asks 0;town w asks 5;town x asks 0;town y asks 0;town home asks 0;"
            + "road home y;road home x;road home w;road w goal;road x goal;road y goal;";
        Probe.same("w", of(star + plain("p", "home", 5, 0)).guide(0, 0), 1);
        Probe.same("x, as w does not let him", of(star + plain("p", "home", 4, 0)).guide(0, 0), 2);
        BeardPass longer = of("town goal asks 0;town u asks 0;town v asks 0;town w asks 0;town home asks 0;road home u;road u v;road v goal;"
            + "road home w;road w goal;" + plain("p", "home", 0, 0));
        Probe.same("not the first by a longer way", longer.guide(0, 0), 3);
    }

    // "WHEN: in how many WEEKS (0 to 99 ..."
    private static void whenAtOnce() {
        BeardPass pass = of(TWO + plain("p", "a", 8, 0) + plain("q", "a", 9, 0));
        Probe.same("he is there", pass.when(0, 0), 0);
        Probe.same("9 of 9", pass.when(1, 1), 0);
        Probe.same("8 of 9", pass.when(0, 1), 1);
        Probe.same("he is there, whatever its guard says", of("town a asks 30;" + plain("p", "a", 0, 0)).when(0, 0), 0);
    }

    // when: "not by 99"
    private static void whenBy99() {
        for (int week = 97; week <= 101; week++) {
            BeardPass pass = of(TWO + plain("p", "a", 0, 0) + "reads weeks=" + week + ";");
            Probe.same("in week " + week, pass.when(0, 1), week <= 99 ? week : -1);
        }
        Probe.same("no road", of("town a asks 0;town b asks 0;" + plain("p", "a", 9, 0)).when(0, 1), -1);
        Probe.same("grows 0", of(TWO + plain("p", "a", 8, 99) + "grows 0;").when(0, 1), -1);
    }

    // "(All from how it is now"
    private static void whenFromNow() {
        BeardPass pass = of(TWO + plain("p", "a", 0, 0) + "grows 0;reads weeks=101;");
        Probe.same("by 101", pass.when(0, 1), -1);
        pass.week();
        Probe.same("by 100", pass.when(0, 1), -1);
        pass.week();
        Probe.same("by 99", pass.when(0, 1), 99);
        pass.undo();
        Probe.same("by 100 again", pass.when(0, 1), -1);
    }

    // "he GOES as he likes between"
    private static void whenHeGoesBetween() {
        // b is open in week 1 alone, c in week 3 alone, d in week 3 alone
        BeardPass pass = of("town a asks 0;town b asks 1;town c asks 3;town d asks 3;road a b;road b c;road c d;" + plain("p", "a", 0, 0)
            + "reads weeks=asked;");
        int[] due = {0, 1, 3, 3};
        for (int town = 0; town < 4; town++) {
            Probe.same("to " + town, pass.when(0, town), due[town]);
        }
        pass.week();
        pass.week();
        Probe.same("too late for b", pass.when(0, 2), -1);
    }

    // "in WEEKS all beards grow"
    private static void whenAllBeardsGrow() {
        BeardPass pass = of(TWO + "person s smooth at a beard 0 purse 0;" + plain("p", "a", 5, 0) + "grows 2;");
        Probe.same("who speaks for her", pass.when(0, 1), 2);
        BeardPass grey = of(TWO + "person g grey at a beard 0 purse 0;grows 3;");
        Probe.same("grey, 4 of 9", grey.when(0, 1), 2);
    }

    // "the others staying where they are"
    private static void whenOthersStay() {
        BeardPass pass = of(LINE + "person s smooth at a beard 0 purse 0;person o bishop at a beard 0 purse 0;");
        Probe.same("he takes her to b", pass.when(0, 1), 0);
        Probe.same("and no farther", pass.when(0, 2), -1);
        Probe.same("nor back", pass.frontiers(0, 2), -1);
        Probe.same("round", pass.round(0), -1);
    }

    private static void when60AtMost() {
        for (int length = 79; length <= 81; length++) {
            BeardPass pass = of(TWO + plain("p", "a", 30, 20) + "grows 5;inch 1;reads long=" + length + ";");
            pass.forge(0, 20);
            Probe.same("60 and 20 for " + length, pass.when(0, 1), length == 80 ? 6 : -1);
        }
    }

    private static void roundAtOnce() {
        Probe.same("one town", of("town a asks 30;" + plain("p", "a", 0, 0)).round(0), 0);
        BeardPass pass = of(TWO + plain("p", "a", 8, 0) + plain("q", "a", 9, 0));
        Probe.same("8 of 9", pass.round(0), 1);
        Probe.same("9 of 9", pass.round(1), 0);
        Probe.same("a line from its middle", of(LINE + plain("p", "c", 5, 0)).round(0), 0);
    }

    // "(where he has been counts)"
    private static void roundWhereHeHasBeen() {
        BeardPass pass = of(LINE + plain("p", "a", 5, 0) + "grows 1;");
        for (int town = 1; town < 6; town++) {
            Probe.same("goes", pass.go(0, town), true);
        }
        pass.shave(0);
        Probe.same("he has been in all, and can go nowhere", pass.round(0), 0);
        pass.undo();
        pass.undo();
        pass.shave(0);
        Probe.same("f alone is left", pass.round(0), 5);
        BeardPass isle = of("town a asks 0;town b asks 0;town c asks 9;road a b;" + plain("p", "a", 0, 0));
        Probe.same("no road to c", isle.round(0), -1);
    }

    // round: "not by 99"
    private static void roundBy99() {
        for (int week = 97; week <= 101; week++) {
            BeardPass pass = of(TWO + plain("p", "a", 0, 0) + "reads weeks=" + week + ";");
            Probe.same("in week " + week, pass.round(0), week <= 99 ? week : -1);
        }
    }

    private static void roundHeWaitsElsewhere() {
        // b is open in week 0 alone, c behind it in week 2 alone
        BeardPass pass = of("town a asks 0;town b asks 0;town c asks 2;road a b;road b c;" + plain("p", "a", 0, 0) + "reads weeks=asked;");
        Probe.same("at b", pass.round(0), 2);
        // he has been in a and b, goes back to b in week 0, and from there to c in week 2
        BeardPass been = of("town a asks 0;town b asks 0;town c asks 2;road a b;road b c;" + plain("p", "b", 0, 0) + "reads weeks=asked;");
        been.go(0, 0);
        Probe.same("at b, where he has been", been.round(0), 2);
        been.week();
        Probe.same("too late", been.round(0), -1);
    }

    private static void roundOfNoWay() {
        // she comes to each of b and c, not to both: nobody speaks for her there
        BeardPass pass = of("town a asks 0;town b asks 0;town c asks 0;road a b;road a c;person s smooth at a beard 0 purse 0;"
            + "person o bishop at a beard 0 purse 0;");
        Probe.same("reach", pass.reach(0), 7);
        Probe.same("round", pass.round(0), -1);
        pass.go(0, 1);
        Probe.same("reach at b", pass.reach(0), 2);
    }

    // need: "(0: none", "NONE: others, by none"
    private static void needNone() {
        BeardPass pass = of(LINE + plain("p", "b", 2, 0));
        int[] due = {0, 0, 0, 1, 2, 3};
        for (int town = 0; town < 6; town++) {
            Probe.same("to " + town, pass.need(0, town), due[town]);
        }
        Probe.same("no road", of("town a asks 0;town b asks 0;" + plain("p", "a", 9, 99)).need(0, 1), -1);
        Probe.same("where he is, whatever its guard says", of("town a asks 30;" + plain("p", "a", 0, 0)).need(0, 0), 0);
    }

    // "no more than 20 in all"
    private static void needTwentyInAll() {
        for (int beard = 0; beard <= 2; beard++) {
            BeardPass pass = of("town a asks 0;town b asks 21;road a b;" + plain("p", "a", beard, 99) + "inch 1;");
            Probe.same("with " + beard, pass.need(0, 1), beard == 0 ? -1 : 21 - beard);
            Probe.same("debt with " + beard, pass.debt(0, 1), beard == 0 ? -1 : 0);
            Probe.same("cheapest with " + beard, pass.cheapest(0), beard == 0 ? -1 : 1);
            pass.forge(0, 6);
            Probe.same("with 6 forged ones", pass.need(0, 1), beard == 0 ? -1 : 15 - beard);
            pass.forge(0, 14);
            Probe.same("with 20 forged ones", pass.need(0, 1), beard == 0 ? -1 : 0);
        }
    }

    // "money aside"
    private static void needMoneyAside() {
        BeardPass pass = of(TWO + plain("p", "a", 0, 0) + "inch 9;");
        Probe.same("need", pass.need(0, 1), 9);
        Probe.same("debt", pass.debt(0, 1), 81);
        Probe.same("cheapest", pass.cheapest(0), 1);
        Probe.same("not bought", pass.person(0, 3), 0);
    }

    private static void needOfOtherKinds() {
        String land = "town a asks 0;town b asks 9;town c asks 30;road a b;road b c;";
        BeardPass grey = of(land + "person g grey at a beard 1 purse 0;");
        Probe.same("grey, 4", grey.need(0, 1), 3);
        Probe.same("grey, 15", grey.need(0, 2), 14);
        BeardPass bishop = of(land + "person o bishop at a beard 0 purse 0;");
        Probe.same("bishop", bishop.need(0, 2), 0);
        BeardPass smooth = of(land + "person s smooth at a beard 0 purse 99;" + plain("p", "a", 9, 0));
        Probe.same("smooth, by him", smooth.need(0, 1), 0);
        Probe.same("smooth, by nobody", smooth.need(0, 2), -1);
        Probe.same("smooth, debt", smooth.debt(0, 2), -1);
        Probe.same("smooth, no debt", smooth.debt(0, 1), 0);
        Probe.same("smooth, cheapest", smooth.cheapest(0), -1);
    }

    // "the fewest inches that he must FORGE now": more may close a way
    private static void needTheFewest() {
        BeardPass pass = of("town a asks 0;town b asks 1;town c asks 2;road a b;road b c;" + plain("p", "a", 3, 0)
            + "reads asked=1 and(long=3 or long=7 or long=9)or(asked=2 and 6<long);");
        Probe.same("b now", pass.need(0, 1), 0);
        Probe.same("c with 7", pass.need(0, 2), 4);
        BeardPass forged = of(TWO + plain("p", "a", 3, 99) + "reads false=6;");
        Probe.same("by forged ones alone", forged.need(0, 1), 6);
        forged.forge(0, 5);
        Probe.same("one more", forged.need(0, 1), 1);
        forged.forge(0, 2);
        Probe.same("too many", forged.need(0, 1), -1);
    }

    // "DEBT: what the inches of a NEED cost more than is in his purse (0: no more)"
    private static void debtBothSides() {
        for (int purse = 11; purse <= 13; purse++) {
            BeardPass pass = of(TWO + plain("p", "a", 5, purse) + "inch 3;");
            Probe.same("12 of " + purse, pass.debt(0, 1), Math.max(0, 12 - purse));
        }
        BeardPass pass = of(TWO + plain("p", "a", 9, 0));
        Probe.same("nothing is to be bought", pass.debt(0, 1), 0);
        Probe.same("where he is", pass.debt(0, 0), 0);
        Probe.same("by none", of("town a asks 0;town b asks 9;" + plain("p", "a", 9, 0)).debt(0, 1), -1);
        // 20 inches at 9 each, and 0 to spend
        Probe.same("the most", of("town a asks 0;town b asks 20;road a b;" + plain("p", "a", 0, 0) + "inch 9;").debt(0, 1), 180);
    }

    // cheapest: "NONE: others, none"
    private static void cheapestNone() {
        Probe.same("all within reach", of(TWO + plain("p", "a", 9, 9)).cheapest(0), -1);
        Probe.same("no road", of("town a asks 0;town b asks 0;" + plain("p", "a", 9, 9)).cheapest(0), -1);
        Probe.same("one town", of("town a asks 30;" + plain("p", "a", 0, 9)).cheapest(0), -1);
        Probe.same("21 inches", of("town a asks 0;town b asks 21;road a b;" + plain("p", "a", 0, 9)).cheapest(0), -1);
        Probe.same("20 inches", of("town a asks 0;town b asks 20;road a b;" + plain("p", "a", 0, 9)).cheapest(0), 1);
    }

    private static void cheapestFirstOfEqual() {
        String star = "town a asks 7;town b asks 5;town c asks 5;town d asks 6;town home asks 9;road home a;road home b;road home c;road home d;";
        Probe.same("b", of(star + plain("p", "home", 0, 0)).cheapest(0), 1);
        Probe.same("d, as b and c are within reach", of(star + plain("p", "home", 5, 0)).cheapest(0), 3);
        Probe.same("a, as all others are", of(star + plain("p", "home", 6, 0)).cheapest(0), 0);
        // b asks for less, but behind c: both need as much
        BeardPass behind = of("town a asks 0;town b asks 1;town c asks 5;road a c;road c b;" + plain("p", "a", 0, 0));
        Probe.same("as much, the first", behind.cheapest(0), 1);
    }

    // "TRAPPED: PERSONS who can GO nowhere now."
    private static void trapped() {
        Probe.same("nobody there", of(TWO).trapped(), 0);
        BeardPass pass = of(TWO + plain("p", "a", 8, 0) + plain("q", "a", 9, 0) + plain("r", "b", 0, 0) + "person s smooth at b beard 0 purse 0;"
            + "person t smooth at a beard 0 purse 0;person o bishop at a beard 0 purse 0;");
        Probe.same("p alone", pass.trapped(), 1);
        pass.go(4, 1);
        Probe.same("p alone", pass.trapped(), 1);
        pass.go(2, 0);
        Probe.same("nobody speaks at b; r came to a with nothing", pass.trapped(), 1 + 4 + 8 + 16);
        BeardPass isles = of("town a asks 0;town b asks 0;person o bishop at a beard 0 purse 0;" + plain("p", "b", 30, 0));
        Probe.same("no road", isles.trapped(), 3);
    }

    // "SHAVEN: TOWNS to which he could come now, were he SHAVED first."
    private static void shaven() {
        BeardPass pass = of(LINE + plain("p", "b", 9, 9) + "person s smooth at b beard 9 purse 0;person o bishop at a beard 0 purse 0;"
            + "person g grey at b beard 9 purse 0;");
        Probe.same("reach", pass.reach(0), 63);
        Probe.same("plain", pass.shaven(0), 3);
        Probe.same("bishop", pass.shaven(2), 63);
        // he is asked for half of 1, cut, at b, and for 1 at c
        Probe.same("grey", pass.shaven(3), 3);
        // p and g speak at b for a and c, o speaks at a for b
        Probe.same("smooth, as before", pass.shaven(1), pass.reach(1));
        Probe.same("smooth", pass.shaven(1), 7);
        pass.forge(0, 3);
        Probe.same("nothing forged is left", pass.shaven(0), 3);
        Probe.same("where he is", of("town a asks 30;" + plain("p", "a", 0, 0)).shaven(0), 1);
    }

    // meeting: "NONE: others, none"
    private static void meetingNone() {
        Probe.same("no town", of("").meeting(0), -1);
        Probe.same("no town", of("").meeting(1), -1);
        BeardPass apart = of("town a asks 0;town b asks 0;" + plain("p", "a", 9, 0) + plain("q", "b", 9, 0));
        Probe.same("no road", apart.meeting(0), -1);
        Probe.same("no road", apart.meeting(1), -1);
        for (int week = 98; week <= 100; week++) {
            BeardPass late = of(TWO + plain("p", "a", 9, 0) + plain("q", "b", 9, 0) + "reads asked=9 and weeks=" + week + ";");
            Probe.same("by 99", late.meeting(0), week <= 99 ? week : -1);
            Probe.same("by 99", late.meeting(1), week <= 99 ? 1 : -1);
        }
    }

    private static void meetingFirstOfEqual() {
        BeardPass pass = of("town a asks 5;town b asks 5;town c asks 5;road a b;road b c;road a c;" + plain("p", "c", 5, 0));
        Probe.same("at once", pass.meeting(0), 0);
        Probe.same("the first", pass.meeting(1), 0);
        BeardPass later = of("town a asks 6;town b asks 5;town c asks 5;road a b;road b c;road a c;" + plain("p", "c", 4, 0) + plain("q", "a", 9, 0));
        Probe.same("at once, where he is", later.meeting(0), 0);
        Probe.same("c", later.meeting(1), 2);
        BeardPass nobody = of("town a asks 6;town b asks 5;");
        Probe.same("all of nobody, at once", nobody.meeting(0), 0);
        Probe.same("anywhere, so the first", nobody.meeting(1), 0);
    }

    // the soonest is by the last of them
    private static void meetingTheLast() {
        BeardPass pass = of("town a asks 8;town b asks 7;town c asks 9;road a b;road b c;road a c;" + plain("p", "a", 2, 0) + plain("q", "c", 3, 0)
            + plain("r", "b", 6, 0));
        // a: q 5, r 2; b: p 5, q 4; c: p 7
        Probe.same("weeks", pass.meeting(0), 5);
        Probe.same("a, the first of equal ones", pass.meeting(1), 0);
        pass.shave(0);
        // b: p 7, q 4; a: q 5
        Probe.same("weeks", pass.meeting(0), 5);
        pass.shave(1);
        // a: q 8, r 2; b: p 7, q 7
        Probe.same("weeks", pass.meeting(0), 7);
        Probe.same("b", pass.meeting(1), 1);
        pass.undo();
        Probe.same("fewer weeks again", pass.meeting(0), 5);
        pass.undo();
        Probe.same("a again", pass.meeting(1), 0);
    }

    // "each as by WHEN, alone"
    private static void meetingAlone() {
        BeardPass pass = of("town a asks 0;town b asks 0;town c asks 0;road a b;road b c;person s smooth at a beard 0 purse 0;"
            + "person o bishop at a beard 0 purse 0;person q bishop at c beard 0 purse 0;");
        Probe.same("c is too far for her", pass.when(0, 2), -1);
        Probe.same("a", pass.meeting(1), 0);
        BeardPass far = of(LINE + "person s smooth at c beard 0 purse 0;person o bishop at c beard 0 purse 0;person t smooth at a beard 0 purse 0;"
            + "person q bishop at a beard 0 purse 0;");
        Probe.same("both come to b, one by each", far.meeting(1), 1);
    }

    private static void meetingOthers() {
        BeardPass pass = of(TWO + plain("p", "a", 9, 0));
        for (int what : new int[] {-1, 2, 3, LEAST, MOST}) {
            Probe.same("meeting " + what, pass.meeting(what), -1);
        }
    }

    // "SPEAKERS of a smooth one for a TOWN: who could speak for her there now."
    private static void speakersThere() {
        BeardPass pass = of("town a asks 0;town b asks 8;town c asks 9;road a b;person s smooth at a beard 9 purse 0;" + plain("p", "a", 8, 0)
            + plain("q", "b", 9, 0) + "person g grey at a beard 3 purse 0;person o bishop at a beard 0 purse 0;person t smooth at a beard 9 purse 0;");
        Probe.same("a", pass.speakers(0, 0), 2 + 8 + 16);
        Probe.same("b, grey 3 of 4", pass.speakers(0, 1), 2 + 16);
        Probe.same("c, no road", pass.speakers(0, 2), 16);
        pass.week();
        Probe.same("b, a week later", pass.speakers(0, 1), 2 + 8 + 16);
        pass.go(0, 1);
        Probe.same("at b q alone", pass.speakers(0, 0), 4);
        pass.shave(2);
        Probe.same("nobody for b itself", pass.speakers(0, 1), 0);
    }

    // speakers: "NONE: others, no smooth one"
    private static void speakersNone() {
        BeardPass pass = of(TWO + "person s smooth at a beard 0 purse 0;" + plain("p", "a", 9, 0) + "person g grey at a beard 9 purse 0;"
            + "person o bishop at a beard 9 purse 0;");
        for (int person = 1; person < 4; person++) {
            Probe.same("no smooth one", pass.speakers(person, 1), -1);
        }
        Probe.same("nobody, but smooth", of(TWO + "person s smooth at a beard 0 purse 0;").speakers(0, 1), 0);
    }

    // "so many (0 to 9) inches more"
    private static void stricterFrom0To9() {
        BeardPass pass = of("town a asks 0;town b asks 9;road a b;" + plain("p", "a", 14, 0));
        for (int more = 0; more <= 9; more++) {
            Probe.same("more " + more, pass.stricter(1, more), more <= 5 ? 1 : 0);
            Probe.same("where he is, more " + more, pass.stricter(0, more), 1);
        }
        for (int more : new int[] {-1, 10, 11, LEAST, MOST}) {
            Probe.same("more " + more, pass.stricter(1, more), -1);
        }
        BeardPass most = of("town a asks 0;town b asks 30;road a b;" + plain("p", "a", 30, 99) + "inch 1;");
        most.forge(0, 8);
        Probe.same("38 of 38", most.stricter(1, 8), 1);
        Probe.same("38 of 39", most.stricter(1, 9), 0);
        Probe.same("nobody there", of(TWO).stricter(1, 0), 0);
    }

    // "if all TOWNS asked": the ones on the way, and for those who speak for her
    private static void stricterAll() {
        BeardPass pass = of("town a asks 0;town b asks 9;town c asks 2;road a b;road b c;" + plain("p", "a", 9, 0)
            + "person g grey at a beard 5 purse 0;person s smooth at b beard 0 purse 0;person o bishop at a beard 0 purse 0;" + plain("q", "b", 3, 0));
        Probe.same("c", pass.stricter(2, 0), 31);
        // p is held up at b; q has 3 of 3
        Probe.same("c, one more", pass.stricter(2, 1), 2 + 4 + 8 + 16);
        // grey 5 of 5; q has 3 of 4
        Probe.same("c, two more", pass.stricter(2, 2), 2 + 8);
        // grey 5 of 6
        Probe.same("c, three more", pass.stricter(2, 3), 8);
        Probe.same("asks stays", pass.town(1, 0), 9);
    }

    private static void asking() {
        Twin twin = Twin.of(LINE + plain("p", "a", 2, 9) + "person s smooth at a beard 9 purse 0;person o bishop at b beard 0 purse 0;");
        twin.both(probe -> {
            probe.pass.mark(0, false);
            probe.pass.week();
            probe.pass.forge(0, 1);
        });
        twin.stays("all of these ask alone", WaysEdgesTest::askAll, 0);
    }

    private static int askAll(BeardPass pass) {
        for (int person = 0; person < 3; person++) {
            pass.reach(person);
            pass.round(person);
            pass.cheapest(person);
            pass.shaven(person);
            for (int town = 0; town < 6; town += 5) {
                pass.frontiers(person, town);
                pass.guide(person, town);
                pass.when(person, town);
                pass.need(person, town);
                pass.debt(person, town);
                pass.speakers(person, town);
                pass.stricter(town, 3);
            }
        }
        pass.trapped();
        pass.meeting(0);
        return 0;
    }
}
