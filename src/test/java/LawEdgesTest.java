/** Edges of the E of reads, and of how guards of each KIND read: the Terms of E, and "A guard of a TOWN LETS ...". */
public final class LawEdgesTest {
    public static void main(String[] args) {
        fromTheLeft();
        oneTestEach();
        sumsAndProducts();
        parts();
        oneOrNothing();
        notNothingIsSo();
        intsWrap();
        facts();
        weeksOver();
        withoutReads();
        withinFive();
        withinFiveFaults();
        siblingsLieInNone();
        longestLaw();
        mostOpenAtOnce();
        plainOnes();
        greyOnes();
        bishops();
        smoothOnes();
        Probe.end("LawEdgesTest");
    }

    /** One plain one with a beard of 6, 2 of them forged, before a guard who asks for 9, in week 3. */
    private static void is(String law, boolean due) {
        Probe probe = Probe.of("town a asks 9;person p plain at a beard 1 purse 9;reads " + law + ";");
        probe.pass.forge(0, 2);
        for (int i = 0; i < 3; i++) {
            probe.pass.week();
        }
        Probe.same(law, probe.pass.town(0, 2), due ? 1 : 0);
    }

    private static void isSo(String... laws) {
        for (String law : laws) {
            is(law, true);
        }
    }

    private static void isNot(String... laws) {
        for (String law : laws) {
            is(law, false);
        }
    }

    private static void fault(int kind, String law) {
        new Probe().landFault(kind, "reads " + law);
    }

    // "E: TEST { and TEST or or TEST }, from the left"
    private static void fromTheLeft() {
        isSo("0 and 0 or 1", "1 or 0 and 1", "0 or 1 or 0", "1 and 1 and 1", "0 and 1 or 1 and 1");
        isNot("1 or 1 and 0", "1 or 0 and 0", "1 and 1 and 0", "0 or 0 or 0", "0 and 1 or 0");
        fault(1, "@and 1;");
        fault(1, "1 and @;");
        fault(1, "1 or @or 1;");
        fault(1, "1 and @and 1;");
    }

    // "TEST: SUM, or SUM < SUM, or SUM = SUM"
    private static void oneTestEach() {
        isSo("1<2", "2=2", "1+1=2", "1<1+1", "2<3 and 3<4", "3*2-1=5", "0-1<0");
        isNot("2<2", "3<2", "1=2", "2<1+1", "0<0-1");
        fault(1, "1<2@<3;");
        fault(1, "1<2@=1;");
        fault(1, "1=1@=1;");
        fault(1, "1=1@<1;");
        fault(1, "1<@;");
        fault(1, "@<1;");
        fault(1, "1=@and;");
    }

    // "SUM: PRODUCT { + or - PRODUCT }; PRODUCT: PART { * PART }"
    private static void sumsAndProducts() {
        isSo("2+3*4=14", "(2+3)*4=20", "10-3-2=5", "10-(3-2)=9", "10-3+2=9", "2*3*4=24", "20-2*3*2=8", "7-7+1");
        isNot("7-7", "2*0", "0*9*9", "10-3-2=9");
        fault(1, "1+@;");
        fault(1, "1-@-1;");
        fault(1, "2*@*2;");
        fault(1, "@-1;");
        fault(1, "@+1;");
        fault(1, "@*1;");
    }

    // "PART: a NUMBER, a fact, not PART, ( E )"
    private static void parts() {
        isSo("1", "9999", "not 0", "(1)", "((1))", "not not 1", "not(0)", "(0 or 1)", "(1<2)", "not(1<1)", "not 0*2=2", "not 0+1=2");
        isNot("0", "0000", "not 1", "not not 0", "not(1)", "(1 and 0)", "not 1<0", "not 0=0");
        fault(1, "@;");
        fault(1, "(@);");
        fault(1, "(1@;");
        fault(1, "1@);");
        fault(1, "not@;");
        fault(1, "not @and 1;");
        fault(1, "1 @1;");
        fault(1, "1@(1);");
        fault(1, "long @not 1;");
        fault(1, "(1)@(1);");
        fault(1, "(1@");
        fault(1, "@town;");
        fault(1, "@week;");
        fault(1, "@a;");
        fault(1, "@lon;");
        fault(1, "@longs;");
        fault(1, "@true;");
    }

    // "Of not, and, or, < and = comes 1 or 0"
    private static void oneOrNothing() {
        isSo("(not 0)=1", "(not 7)=0", "(not(0-7))=0", "(7 and 8)=1", "(7 and 0)=0", "(0 and 7)=0", "(0 or 7)=1", "(7 or 0)=1", "(0 or 0)=0",
            "(7 or 8)=1", "(1<5)=1", "(5<1)=0", "(5=5)=1", "(5=6)=0", "(2<3)+(2<3)=2", "not not 9=1");
    }

    // "what is not 0 is so"
    private static void notNothingIsSo() {
        isSo("7", "0-7", "0-1", "0-1 and 0-1", "0 or 0-1", "2-1");
        isNot("not(0-1)", "1-1", "0-0", "(0-1)and 0");
    }

    // "ints wrap"
    private static void intsWrap() {
        // 2 to the 13th is 8192: 2 to the 31st is below 0, 2 to the 32nd is 0
        isSo("8192*8192*32<0", "0<8192*8192*16", "8192*8192*64=0", "8192*8192*64+1", "8192*8192*32-1=8192*8192*16-1+8192*8192*16",
            "0<8192*8192*32-1", "0-8192*8192*32<0", "0-8192*8192*32-1=8192*8192*32-1");
        isNot("8192*8192*64", "0<8192*8192*32", "8192*8192*8192*8192", "8192*8192*32+8192*8192*32");
        isSo("9999*9999*9999=" + sum(9999 * 9999 * 9999));
    }

    /** An int as a sum that can be told. */
    private static String sum(int number) {
        int high = number / 9999 / 9999;
        int rest = number - high * 9999 * 9999;
        return "(0" + signed(high) + "*9999*9999" + signed(rest / 9999) + "*9999" + signed(rest % 9999) + ")";
    }

    private static String signed(int number) {
        return (number < 0 ? "-" : "+") + Math.abs(number);
    }

    // "Facts: long (the beard, forged inches, too), false (forged inches), asked ..., weeks (that are over)"
    private static void facts() {
        isSo("long=6", "false=2", "asked=9", "weeks=3", "long-false=4", "long+weeks=asked");
    }

    private static void weeksOver() {
        Probe probe = Probe.of("town a asks 2;person p plain at a beard 1 purse 9;reads weeks=asked;");
        int[] due = {0, 0, 1, 0};
        for (int week = 0; week < 4; week++) {
            Probe.same("in week " + week, probe.pass.town(0, 2), due[week]);
            probe.pass.week();
        }
        probe.pass.undo();
        probe.pass.undo();
        Probe.same("in week 2 again", probe.pass.town(0, 2), 1);
    }

    // "Without reads: not (long < asked)."
    private static void withoutReads() {
        for (int beard = 7; beard <= 11; beard++) {
            Probe probe = Probe.of("town a asks 9;person p plain at a beard " + beard + " purse 9;");
            Probe.same("beard " + beard, probe.pass.town(0, 2), beard >= 9 ? 1 : 0);
        }
        Probe forged = Probe.of("town a asks 9;person p plain at a beard 7 purse 9;");
        forged.pass.forge(0, 1);
        Probe.same("8 with a forged one", forged.pass.town(0, 2), 0);
        forged.pass.forge(0, 1);
        Probe.same("9 with forged ones", forged.pass.town(0, 2), 1);
        Probe.same("told, then untold", forged.land("town a asks 0;person p plain at a beard 7 purse 9;reads 0;"), 0);
        Probe.same("by what is told", forged.pass.town(0, 2), 0);
        Probe.same("untold", forged.land("town a asks 0;person p plain at a beard 0 purse 9;"), 0);
        Probe.same("by what is untold", forged.pass.town(0, 2), 1);
    }

    // "no PART lies within 5 of not and ( )": within 4 is right
    private static void withinFive() {
        isSo("((((1))))", "not not not not 1", "not(not(1))", "(not(not 1))", "not not((1))", "((not not 1))", "(((not 0)))",
            "((((1)+1)+1)+1)=4", "((((long))))=6");
        isNot("((((0))))", "not not not not 0", "not(not(0))", "(not(not 0))");
    }

    // "not, or a PART, within 5 others"
    private static void withinFiveFaults() {
        for (String part : new String[] {"1", "long", "false", "asked", "weeks", "not 1", "(1)", "9999", "(", "not"}) {
            fault(5, "(((((@" + part + ")))));");
            fault(5, "not not not not not @" + part + ";");
            fault(5, "not(not(not @" + part + "));");
            fault(5, "(not(not(@" + part + ")));");
            fault(5, "((((1+(@" + part + ");");
            fault(5, "((((1)))) and 1<2*not(((not @" + part + ");");
        }
        // of kinds the least: what can be no PART can't stand there at all
        for (String none : new String[] {")", ";", "and", "or", "<", "=", "+", "-", "*", "12345", "longlonglong", ",", "town", "a", ""}) {
            fault(1, "(((((@" + none);
            fault(1, "not not not not not @" + none);
        }
        fault(1, "((((1@;");
        fault(1, "((((1))))@);");
    }

    private static void siblingsLieInNone() {
        isSo("((((1))))+((((1))))=2", "not not not not 1 and not not not not 1", "(((1)*(1)))and(((not 0)))", "not not not not 1*((((1))))",
            "((((1))))<((((2))))", "((((1)+(0))+(0))+(0))");
        fault(5, "((((1))))+(((((@1);");
    }

    // a law may fill the tape: 1,000 signs
    private static void longestLaw() {
        String land = "town a asks 0;person p plain at a beard 2 purse 0;reads long";
        int room = 1000 - land.length() - "=999;".length();
        String ones = "+1".repeat(room / 2);
        Probe probe = new Probe();
        Probe.same("as many as fit", probe.land(land + ones + "=" + (2 + room / 2) + ";"), 0);
        Probe.same("all of them", probe.pass.town(0, 2), 1);
        Probe.same("one less", probe.land(land + ones + "=" + (1 + room / 2) + ";"), 0);
        Probe.same("not by one less", probe.pass.town(0, 2), 0);
        Probe ors = new Probe();
        Probe.same("one joint behind another", ors.land("town a asks 0;person p plain at a beard 2 purse 0;reads 0" + "or 0".repeat(230) + " or 1;"), 0);
        Probe.same("the last one counts", ors.pass.town(0, 2), 1);
    }

    // each of 5 levels leaves a joint, a test, a sum and a product open
    private static void mostOpenAtOnce() {
        isSo(deepest("long"), deepest("false"));
        isNot(deepest("0"));
    }

    private static String deepest(String part) {
        String law = "1 and 5<5+1*" + part;
        for (int i = 0; i < 4; i++) {
            law = "1 and 5<5+1*(" + law + ")";
        }
        return law;
    }

    // "of a plain one by his beard"
    private static void plainOnes() {
        Probe probe = Probe.of("town a asks 5;town b asks 6;town c asks 7;person p plain at a beard 6 purse 9;");
        int[] due = {1, 1, 0};
        for (int town = 0; town < 3; town++) {
            Probe.same("of 6 inches, town " + town, probe.pass.town(town, 2), due[town]);
        }
    }

    // "a grey one likewise, asked being half of it, cut"
    private static void greyOnes() {
        int[] asks = {0, 1, 2, 3, 29, 30};
        for (int asked : asks) {
            for (int beard = Math.max(0, asked / 2 - 1); beard <= asked / 2 + 1; beard++) {
                Probe probe = Probe.of("town a asks " + asked + ";person g grey at a beard " + beard + " purse 0;");
                Probe.same("grey " + beard + " of " + asked, probe.pass.town(0, 2), beard >= asked / 2 ? 1 : 0);
                Probe.same("asks all the same", probe.pass.town(0, 0), asked);
            }
            Probe exact = Probe.of("town a asks " + asked + ";person g grey at a beard 0 purse 0;reads asked=" + asked / 2 + ";");
            Probe.same("half of " + asked, exact.pass.town(0, 2), 1);
        }
    }

    // "a bishop is always let through"
    private static void bishops() {
        Probe probe = Probe.of("town a asks 30;town b asks 30;road a b;person p plain at a beard 30 purse 0;"
            + "person bob bishop at a beard 0 purse 0;reads 0;");
        Probe.same("he alone", probe.pass.town(0, 2), 2);
        Probe.same("he goes", probe.pass.go(1, 1), true);
        Probe.same("no other", probe.pass.go(0, 1), false);
    }

    // "a smooth one is read as one who is in the TOWN where she is, no smooth one, and for whom the guard would do it"
    private static void smoothOnes() {
        String towns = "town a asks 0;town b asks 8;road a b;person s smooth at a beard 30 purse 9;";
        String[] others = {"", "person p plain at a beard 8 purse 0;", "person p plain at a beard 7 purse 0;", "person p plain at b beard 8 purse 0;",
            "person p grey at a beard 4 purse 0;", "person p grey at a beard 3 purse 0;", "person p bishop at a beard 0 purse 0;",
            "person p bishop at b beard 0 purse 0;", "person p smooth at a beard 30 purse 0;",
            "person p plain at a beard 0 purse 0;person q plain at a beard 9 purse 0;"};
        boolean[] due = {false, true, false, false, true, false, true, false, false, true};
        for (int i = 0; i < others.length; i++) {
            Probe probe = Probe.of(towns + others[i]);
            Probe.same("read: " + others[i], (probe.pass.town(1, 2) & 1) != 0, due[i]);
            Probe.same("goes: " + others[i], probe.pass.go(0, 1), due[i]);
            Probe.same("is: " + others[i], probe.pass.person(0, 1), due[i] ? 1 : 0);
        }
        Probe lawful = Probe.of(towns + "reads 1;");
        Probe.same("nobody speaks, whatever the law", lawful.pass.go(0, 1), false);
        Probe forged = Probe.of(towns + "person p plain at a beard 3 purse 9;inch 1;reads long=8 and false=5;");
        Probe.same("not yet", forged.pass.go(0, 1), false);
        forged.pass.forge(1, 5);
        Probe.same("by the other's forged inches", forged.pass.go(0, 1), true);
        Probe.same("the other is left behind", forged.pass.person(1, 1), 0);
    }
}
