/** Each promise by a run of calls of its own: what it answers while all round it is told, done, undone and marked. */
public final class RunsTest {
    /** Four TOWNS, a ring of three of them and the capital behind; one PERSON of each KIND. */
    private static final String VALLEY = "town inn asks 0;town gate asks 6;town fair asks 12;town cap asks 24;"
        + "road inn gate;road gate fair;road fair cap;road inn fair;"
        + "person ada plain at inn beard 5 purse 24;person flo smooth at inn beard 3 purse 8;"
        + "person abe bishop at fair beard 0 purse 6;person old grey at gate beard 6 purse 11;grows 3;inch 4;";

    public static void main(String[] args) {
        told();
        byHand();
        whoMayGoWhere();
        inchesAndRazors();
        guards();
        restsAndYears();
        Probe.end("RunsTest");
    }

    private static void told() {
        aNewObject();
        feed();
        land();
        journey();
        person();
        town();
        count();
    }

    private static void byHand() {
        go();
        forge();
        shave();
        week();
        undo();
        judged();
        mark();
    }

    private static void whoMayGoWhere() {
        reach();
        frontiers();
        when();
        round();
        guide();
        trapped();
        meeting();
        speakers();
        stricter();
    }

    private static void inchesAndRazors() {
        need();
        cheapest();
        debt();
        shaven();
    }

    private static void guards() {
        strict();
        alike();
        see();
        lengths();
        ask();
    }

    private static void restsAndYears() {
        rests();
        years();
    }

    private static void valley(String title, String text) {
        Script.run(title, "land " + VALLEY + " -> 0\n" + text);
    }

    private static void aNewObject() {
        Probe.same("1: NONE", BeardPass.NONE, -1);
        Script.run("1: a new object", """
            count(-1..12)               -> none 0 0 1 2 0 0 0 0 0 0 0 0 none
            person(0, 0..5)             -> none none none none none none
            town(0, 0..2)               -> none none none
            go(0, 0)                    -> no
            forge(0, 1)                 -> none
            shave(0)                    -> no
            undo()                      -> no
            mark(0..3, true)            -> no no no no
            judged(0..3)                -> none none 0 -2
            trapped()                   -> 0
            meeting(0..1)               -> none none
            strict()                    -> none
            alike()                     -> 0
            see(0, true)                -> no
            lengths(0..3)               -> 31 0 30 none
            ask()                       -> none
            years(3, 2, 0..2)           -> 0 0 0
            weeks are over in a land of nothing, too
            week()                      -> 1 2 3
            mark(2, false)              -> yes
            undo()                      -> yes yes yes no
            count(4)                    -> 0
            mark(2, true)               -> yes
            count(4)                    -> 3
            journey week;week;          -> 0
            judged(0..2)                -> none none 0
            count(8)                    -> 2
            journey go @a b;            -> fault2
            count(8)                    -> 2
            land                        -> 0
            count(0..11)                -> 0 0 1 2 0 0 0 0 0 0 0 0
            mark(2, true)               -> no
            """);
    }

    private static void feed() {
        Script.run("2: feed", """
            t o w n   a   a             s k s   4 ;
            feed(0x746f776e20612061, 0x736b7320343b0000, 0)     -> 14
            feed(0, 0, 0)                                       -> 14 14
            signs 0, 127, 31, 11, 9, 128, 255 are left out, 10 and 32 are not
            feed(0x007f1f0b0a0980ff, 0x2000000000000000, 0)     -> 16
            week()                                              -> 1
            undo()                                              -> yes
            count(11)                                           -> 16
            land()                                              -> 0
            count(11)                                           -> 0
            town(0, 0)                                          -> 4
            feed(0, 0, 0x7765656b3b)                            -> 5
            feed(0x7765656b3b, 0x73, 0x68)                      -> 12
            feed(0x6176652070, 0, 0x3b)                         -> 18
            journey()                                           -> 258
            count(11)                                           -> 0
            """);
        Script.run("2: feed, 1000 signs", "feed " + " ".repeat(985) + "town a asks 7 -> 998\n"
            + "feed(0x2020200000000000, 0, 0) -> 1000 1000\nfeed(0, 0, 59) -> 1000\ncount(11) -> 1000\n"
            + "land() -> 16001\ncount(0) -> 0\ncount(11) -> 0\nfeed town a asks 7; -> 14\nland() -> 0\ntown(0, 0) -> 7\n");
    }

    private static void land() {
        valley("3: land", """
            count(0..3)                 -> 4 4 3 4
            journey go ada gate;week;   -> 0
            week()                      -> 1 2
            forge(0, 2)                 -> 16
            go(0, 1)                    -> yes
            see(1, true)                -> yes
            mark(1, false)              -> yes
            all stays by a fault
            land town a asks 3;town b asks @31;                                     -> fault4
            land town a asks 3;road a @b;                                           -> fault2
            land town a asks 3;town @a asks 3;                                      -> fault3
            land town a asks 3;person p @king at a beard 1 purse 1;                 -> fault1
            land town a asks 3;town b asks 4;road a b;road b @a;                    -> fault3
            land inch 3;grows 2;@inch 3;                                            -> fault3
            land town a asks 1;town b asks 1;town c asks 1;town d asks 1;town e asks 1;town f asks 1;@town g asks 1; -> fault5
            land reads ((((long))))<not not not not weeks;@reads 1;                 -> fault3
            land reads not(not(not@(not(not long))));                               -> fault5
            land town a asks 3@                                                     -> fault1
            land town @abcdefghi asks 3;                                            -> fault1
            land town a asks @00003;                                                -> fault1
            land town a asks 1;person @a plain at a beard 1 purse 1;                -> fault3
            land town a asks 1;person p plain at a beard @31 purse 0;               -> fault4
            land town a asks 1;person p plain at a beard 30 purse @100;             -> fault4
            land town a asks 1;person p plain at @p beard 30 purse 1;               -> fault2
            land grows 5;@grows 5;                                                  -> fault3
            land grows @6;                                                          -> fault4
            land inch @0;                                                           -> fault4
            land inch @10;                                                          -> fault4
            count(0..11)                -> 4 4 3 4 2 7 2 41 2 1 4 0
            person(0, 0..5)             -> 0 1 13 2 16 3
            lengths(0)                  -> 25
            judged(0)                   -> 0
            undo()                      -> yes
            person(0, 1)                -> 0
            mark(1, true)               -> yes
            person(0, 1)                -> 1
            week()                      -> 3
            without one all is new
            land town one asks 9;reads 1;person two grey at one beard 30 purse 99;  -> 0
            count(0..11)                -> 1 1 1 2 0 1 0 99 0 0 0 0
            person(0, 0..5)             -> 3 0 30 0 99 1
            lengths(0)                  -> 31
            undo()                      -> no
            mark(1, true)               -> no
            judged(0..2)                -> none none 0
            journey go ada gate;        -> 50
            land town abcdefgh asks 0030;inch 9;grows 0;                            -> 0
            count(0..3)                 -> 1 0 0 9
            town(0, 0)                  -> 30
            land                        -> 0
            count(0..3)                 -> 0 0 1 2
            """);
        String people = "";
        for (int i = 0; i < 6; i++) {
            people += "person p" + "abcdef".charAt(i) + " plain at a beard 0 purse 0;";
        }
        Script.run("3: land, six persons", "land town a asks 0;" + people + " -> 0\ncount(1) -> 6\n"
            + "land town b asks 0;town a asks 0;" + people + "@person q; -> fault5\ncount(0..1) -> 1 6\n");
    }

    private static void journey() {
        valley("4: journey", """
            journey week;go flo gate;week;go flo inn;   -> 0
            count(8)                    -> 4
            judged(0)                   -> none
            the first guard bars her when she tries it at once
            journey go flo gate;week;go flo gate;       -> 0
            count(8)                    -> 3
            judged(0)                   -> 0
            journey go @bob gate;       -> fault2
            journey go ada @bob;        -> fault2
            journey go @gate ada;       -> fault2
            journey forge ada @21;      -> fault4
            journey forge ada @0;       -> fault4
            journey forge ada@;         -> fault1
            journey shave ada @ada;     -> fault1
            journey week@               -> fault1
            journey week;@town a asks 3;                -> fault1
            journey go ada @week;       -> fault1
            count(8)                    -> 3
            judged(0)                   -> 0
            count(11)                   -> 0
            what is done by hand leaves it alone
            week()                      -> 1
            shave(3)                    -> yes
            undo()                      -> yes
            count(8)                    -> 3
            journey                     -> 0
            count(8)                    -> 0
            judged(0)                   -> none
            """);
        valley("4: journey, 40 lines", "journey " + "week;".repeat(40) + " -> 0\ncount(8) -> 40\n"
            + "journey " + "week;".repeat(40) + "@shave ada; -> fault5\njourney " + "week;".repeat(40) + "@ada; -> fault1\n"
            + "count(8) -> 40\njourney forge ada 20;forge ada 1; -> 0\ncount(8) -> 2\n");
    }

    private static void person() {
        valley("5: person", """
            person(0..3, 0..5)          -> 0 0 5 0 24 1  1 0 3 0 8 1  2 2 0 0 6 4  3 1 6 0 11 2
            forge(0, 3)                 -> 12
            person(0, 0..5)             -> 0 0 8 3 12 1
            go(0, 1)                    -> yes
            person(0, 0..5)             -> 0 1 8 3 12 3
            week()                      -> 1
            person(0..3, 2)             -> 11 3 3 9
            person(0..3, 3)             -> 3 0 0 0
            shave(0)                    -> yes
            person(0, 0..5)             -> 0 1 0 0 12 3
            undo()                      -> yes
            person(0, 0..5)             -> 0 1 11 3 12 3
            undo()                      -> yes
            person(0..3, 2)             -> 8 3 0 6
            back at the inn he has been at the gate all the same
            go(0, 0)                    -> yes
            person(0, 0..5)             -> 0 0 8 3 12 3
            go(3, 2)                    -> yes
            person(3, 0..5)             -> 3 2 6 0 11 6
            forge(0, 3)                 -> 0
            go(0, 2)                    -> no
            person(0, 0..5)             -> 0 0 11 6 0 3
            week()                      -> 1
            go(0, 2)                    -> yes
            person(0, 0..5)             -> 0 2 14 6 0 7
            person(0..3, 1)             -> 2 0 2 2
            person(-1, 0)               -> none
            person(4, 0..5)             -> none none none none none none
            person(0, -1)               -> none
            person(0, 6)                -> none
            land town a asks 1;person x grey at a beard 30 purse 99;person y smooth at a beard 0 purse 0;  -> 0
            person(0..1, 0..5)          -> 3 0 30 0 99 1  1 0 0 0 0 1
            person(2, 0)                -> none
            """);
    }

    private static void town() {
        valley("6: town", """
            town(0..3, 0..2)            -> 0 6 15  6 5 12  12 11 12  24 4 4
            an inch opens the gate to ada, and to flo by her
            forge(0, 1)                 -> 20
            town(0..3, 2)               -> 15 15 12 4
            go(0, 1)                    -> yes
            town(0..3, 2)               -> 13 13 12 4
            week()                      -> 1
            town(0..3, 2)               -> 13 13 12 4
            week()                      -> 2
            town(0..3, 2)               -> 13 13 13 12
            abe speaks for flo at the inn
            go(2, 0)                    -> yes
            town(0..3, 2)               -> 15 15 15 14
            shave(3)                    -> yes
            town(0..3, 2)               -> 15 7 7 6
            undo()                      -> yes
            town(0..3, 0..2)            -> 0 6 15  6 5 15  12 11 15  24 4 14
            town(-1, 0)                 -> none
            town(4, 0..2)               -> none none none
            town(0, -1)                 -> none
            town(0, 3)                  -> none
            """);
        Script.run("6: town, by a law", """
            land town a asks 7;town b asks 0;road b a;person p plain at a beard 9 purse 50;person q grey at b beard 3 purse 9;reads not(long-false*3<asked+weeks)or weeks=2; -> 0
            town(0..1, 0..2)            -> 7 2 3  0 1 3
            10 - 3 of 7
            forge(0, 1)                 -> 48
            town(0..1, 2)               -> 3 3
            11 - 3 of 8; grey 4 of 3 + 1
            week()                      -> 1
            town(0..1, 2)               -> 3 3
            12 - 6 of 8
            forge(0, 1)                 -> 46
            town(0..1, 2)               -> 2 3
            in week 2 all are let through
            week()                      -> 2
            town(0..1, 2)               -> 3 3
            14 - 6 of 10; grey 6 of 3 + 3
            week()                      -> 3
            town(0..1, 2)               -> 2 3
            undo()                      -> yes
            town(0..1, 2)               -> 3 3
            """);
    }

    private static void count() {
        valley("34: count", """
            count(0..11)                -> 4 4 3 4 0 7 0 49 0 0 0 0
            week()                      -> 1
            forge(0, 2)                 -> 16
            forge(3, 1)                 -> 7
            count(0..11)                -> 4 4 3 4 1 7 3 37 0 0 3 0
            go(3, 2)                    -> yes
            count(5)                    -> 5
            go(2, 3)                    -> yes
            count(5)                    -> 13
            see(0, true)                -> yes
            see(3, true)                -> yes
            feed week;                  -> 5
            count(0..11)                -> 4 4 3 4 1 13 3 37 0 2 5 5
            journey()                   -> 0
            count(0..11)                -> 4 4 3 4 1 13 3 37 1 2 5 0
            shave(0)                    -> yes
            count(6..7)                 -> 1 37
            mark(0, false)              -> yes
            undo()                      -> yes yes
            count(0..11)                -> 4 4 3 4 1 5 3 37 1 2 4 0
            week()                      -> 2 3 4 5 6 7 8 9 10 11 12 13 14
            count(10)                   -> 16
            count(4)                    -> 14
            mark(0, true)               -> yes
            count(0..11)                -> 4 4 3 4 1 13 1 37 1 2 0 0
            count(-1)                   -> none
            count(12)                   -> none
            land grows 0;inch 9;        -> 0
            count(0..11)                -> 0 0 0 9 0 0 0 0 0 0 0 0
            """);
    }

    private static void go() {
        valley("7: go", """
            ada has 5 of 6; no road; where she is; nobody for flo
            go(0, 1)                    -> no
            go(0, 3)                    -> no
            go(0, 0)                    -> no
            go(1, 1)                    -> no
            count(10)                   -> 0
            go(3, 2)                    -> yes
            go(3, 3)                    -> no
            go(3, 1)                    -> yes
            go(3, 0)                    -> yes
            person(3, 5)                -> 7
            old speaks for flo, then nobody does
            go(1, 1)                    -> yes
            go(1, 0)                    -> no
            go(1, 2)                    -> no
            week()                      -> 1
            go(0, 1)                    -> yes
            go(1, 0)                    -> yes
            go(1, 2)                    -> yes
            abe speaks for the capital, and she waits there for him
            go(1, 3)                    -> yes
            go(1, 2)                    -> no
            go(2, 3)                    -> yes
            go(1, 2)                    -> yes
            go(2, 2)                    -> yes
            person(1, 5)                -> 15
            person(0..3, 1)             -> 1 2 2 0
            count(10)                   -> 12
            shave(0)                    -> yes
            go(0, 0)                    -> yes
            go(0, 1)                    -> no
            undo()                      -> yes yes
            go(0, 0)                    -> yes
            go(0, 1)                    -> yes
            go(-1, 0)                   -> no
            go(4, 0)                    -> no
            go(2, -1)                   -> no
            go(2, 4)                    -> no
            person(0..3, 1)             -> 1 2 2 0
            """);
    }

    private static void forge() {
        valley("8: forge", """
            forge(0, 1)                 -> 20
            forge(0, 2)                 -> 12
            person(0, 2..4)             -> 8 3 12
            forge(0, 4)                 -> none
            forge(0, 3)                 -> 0
            forge(0, 1)                 -> none
            forge(1, 1)                 -> none
            forge(2, 1)                 -> 2
            forge(2, 1)                 -> none
            forge(3, 2)                 -> 3
            count(6..7)                 -> 9 13
            shave(0)                    -> yes
            forge(0, 1)                 -> none
            undo()                      -> yes
            person(0, 2..4)             -> 11 6 0
            undo()                      -> yes yes yes
            count(6..7)                 -> 3 37
            forge(0, 3)                 -> 0
            forge(4, 1)                 -> none
            forge(-1, 1)                -> none
            count(10)                   -> 3
            land town a asks 0;person p plain at a beard 0 purse 99;inch 1; -> 0
            forge(0, 20)                -> 79
            forge(0, 1)                 -> none
            week()                      -> 1
            forge(0, 1)                 -> none
            a razor makes room for 20 more
            shave(0)                    -> yes
            forge(0, 21)                -> none
            forge(0, 20)                -> 59
            shave(0)                    -> yes
            forge(0, 19)                -> 40
            forge(0, 2)                 -> none
            forge(0, 1)                 -> 39
            person(0, 2..4)             -> 20 20 39
            shave(0)                    -> yes
            forge(0, 0)                 -> none
            forge(0, -1)                -> none
            """);
    }

    private static void shave() {
        valley("9: shave", """
            forge(0, 2)                 -> 16
            shave(0)                    -> yes
            person(0, 0..5)             -> 0 0 0 0 16 1
            week()                      -> 1
            shave(1)                    -> yes
            week()                      -> 2
            person(0..3, 2)             -> 6 0 6 12
            shave(3)                    -> yes
            person(3, 0..5)             -> 3 1 0 0 11 2
            undo()                      -> yes
            person(3, 2)                -> 12
            shave(4)                    -> no
            shave(-1)                   -> no
            count(10)                   -> 5
            a bishop needs none
            shave(2)                    -> yes
            reach(2)                    -> 15
            one who has none can be shaved, too
            shave(0)                    -> yes yes
            count(10)                   -> 8
            undo()                      -> yes yes yes
            person(0..3, 2)             -> 6 0 6 12
            """);
    }

    private static void week() {
        valley("10: week", """
            week()                      -> 1
            person(0..3, 2)             -> 8 3 3 9
            forge(0, 2)                 -> 16
            week()                      -> 2
            person(0..3, 2)             -> 13 3 6 12
            shave(0)                    -> yes
            week()                      -> 3
            person(0..3, 2)             -> 3 3 9 15
            undo()                      -> yes
            week()                      -> 3 4
            person(0..3, 2)             -> 6 3 12 18
            person(0..3, 1)             -> 0 0 2 1
            count(6..7)                 -> 0 41
            """);
        Script.run("10: week, 60 at most", """
            land town a asks 0;person p plain at a beard 30 purse 9;person s smooth at a beard 30 purse 9;person b bishop at a beard 28 purse 9;person g grey at a beard 0 purse 9;grows 5;inch 1; -> 0
            forge(0, 3)                 -> 6
            week()                      -> 1 2 3 4 5 6
            person(0..3, 2)             -> 63 30 58 30
            week()                      -> 7
            person(0..3, 2)             -> 63 30 60 35
            week()                      -> 8
            person(0..3, 2)             -> 63 30 60 40
            undo()                      -> yes yes yes
            person(0..3, 2)             -> 58 30 53 25
            land town a asks 0;person p plain at a beard 1 purse 9;grows 0; -> 0
            week()                      -> 1 2
            person(0, 2)                -> 1
            land town a asks 0;person p plain at a beard 1 purse 9; -> 0
            week()                      -> 1 2
            person(0, 2)                -> 3
            """);
    }

    private static void undo() {
        valley("11: undo", """
            undo()                      -> no
            forge(0, 1)                 -> 20
            go(0, 1)                    -> yes
            week()                      -> 1
            shave(0)                    -> yes
            what can't be, what is told and seen, and a mark that is laid are nothing to undo
            go(0, 1)                    -> no
            forge(1, 1)                 -> none
            shave(4)                    -> no
            see(1, false)               -> yes
            journey week;               -> 0
            mark(0, false)              -> yes
            count(10)                   -> 4
            undo()                      -> yes
            person(0, 0..5)             -> 0 1 9 1 20 3
            undo()                      -> yes
            person(0..3, 2)             -> 6 3 0 6
            count(4)                    -> 0
            undo()                      -> yes
            person(0, 0..5)             -> 0 0 6 1 20 1
            undo()                      -> yes
            person(0, 0..5)             -> 0 0 5 0 24 1
            undo()                      -> no
            count(8..10)                -> 1 1 0
            the last 16 of 20
            shave(2)                    -> yes yes
            week()                      -> 1 2 3 4 5 6 7 8 9 10 11 12 13 14 15 16 17 18
            count(10)                   -> 16
            undo()                      -> yes yes yes yes yes yes yes yes yes yes yes yes yes yes yes
            count(4)                    -> 3
            go(2, 3)                    -> yes
            undo()                      -> yes yes no
            count(4)                    -> 2
            person(0..3, 1)             -> 0 0 2 1
            gone back to a mark nothing can be undone
            week()                      -> 3
            mark(0, true)               -> yes
            undo()                      -> no
            person(0, 0..5)             -> 0 1 0 0 20 3
            """);
    }

    private static void judged() {
        valley("12: judged", """
            judged(0..2)                -> none none 0
            line 0: 5 of 6; 3: nobody speaks; 6: 9 of 12; 7: 24 of 20; 9: 9 of 12; 11: 12 of 12
            journey go ada gate;forge ada 1;go ada gate;go flo fair;week;go old fair;go ada fair;forge ada 6;forge ada 5;go old cap;week;go old cap;go abe cap;shave ada; -> 0
            judged(0..2)                -> 0 11 24
            how it is now is nothing to it
            week()                      -> 1
            shave(3)                    -> yes
            go(2, 3)                    -> yes
            forge(0, 6)                 -> 0
            judged(-1..3)               -> -2 0 11 24 -2
            count(10)                   -> 4
            mark(0, false)              -> yes
            journey week;week;week;go ada gate;go ada fair;go flo gate; -> 0
            judged(0..2)                -> 5 none 0
            journey week;go ada @nowhere; -> fault2
            judged(0..2)                -> 5 none 0
            mark(0, true)               -> yes
            judged(0..2)                -> 0 11 24
            journey go abe cap;go abe fair;go abe cap;forge abe 1;forge abe 1; -> 0
            judged(0..2)                -> 4 0 4
            journey forge ada 1;shave ada;go ada gate;week;week;go ada gate; -> 0
            judged(0..2)                -> 2 none 4
            journey                     -> 0
            judged(0..2)                -> none none 0
            land town a asks 3;town b asks 3;road a b;person p grey at a beard 0 purse 9; -> 0
            judged(0..2)                -> none none 0
            journey go p b;week;go p b;go p a;forge p 4;shave p; -> 0
            judged(0..2)                -> 0 2 8
            """);
    }

    private static void mark() {
        valley("33: mark", """
            mark(0..3, true)            -> no no no no
            mark(-1, false)             -> no
            mark(4, false)              -> no
            journey week;               -> 0
            forge(0, 1)                 -> 20
            see(2, true)                -> yes
            mark(0, false)              -> yes
            count(10)                   -> 1
            go(0, 1)                    -> yes
            week()                      -> 1
            journey week;shave flo;     -> 0
            see(3, false)               -> yes
            lengths(0..2)               -> 12 12 23
            mark(3, false)              -> yes
            mark(0, true)               -> yes
            count(0..11)                -> 4 4 3 4 0 7 1 45 1 1 0 0
            person(0, 0..5)             -> 0 0 6 1 20 1
            lengths(0..2)               -> 19 12 30
            undo()                      -> no
            one stays where it was laid, until it is laid anew
            shave(0)                    -> yes
            mark(0, true)               -> yes
            person(0, 2)                -> 6
            mark(3, true)               -> yes
            count(0..11)                -> 4 4 3 4 1 7 1 45 2 2 0 0
            person(0, 0..5)             -> 0 1 9 1 20 3
            lengths(0..2)               -> 12 12 23
            shave(0)                    -> yes
            mark(0, false)              -> yes
            count(10)                   -> 1
            undo()                      -> yes
            person(0, 2)                -> 9
            mark(0, true)               -> yes
            person(0, 2)                -> 0
            count(8)                    -> 2
            mark(1..2, true)            -> no no
            mark(-1, true)              -> no
            mark(4, true)               -> no
            a land that is refused leaves them, one that is told takes them
            land town a asks 9@         -> fault1
            mark(3, true)               -> yes
            person(0, 2)                -> 9
            land town a asks 9;         -> 0
            mark(0..3, true)            -> no no no no
            """);
    }

    private static void reach() {
        valley("13: reach", """
            reach(0..3)                 -> 1 1 15 7
            ada speaks for flo at the inn, old at the gate, abe at the fair
            forge(0, 1)                 -> 20
            reach(0..3)                 -> 3 15 15 7
            go(3, 2)                    -> yes
            reach(0..3)                 -> 3 3 15 7
            week()                      -> 1
            reach(0..3)                 -> 3 3 15 7
            week()                      -> 2
            reach(0..3)                 -> 7 15 15 15
            shave(0)                    -> yes
            reach(0..3)                 -> 1 1 15 15
            undo()                      -> yes yes
            reach(0..3)                 -> 3 3 15 7
            abe comes to the inn, and from there to all
            go(2, 0)                    -> yes
            reach(0..3)                 -> 3 7 15 7
            go(1, 2)                    -> yes
            reach(1)                    -> 7
            reach(-1)                   -> none
            reach(4)                    -> none
            person(0..3, 1)             -> 0 2 0 2
            land town a asks 0;town b asks 0;person p bishop at b beard 0 purse 0; -> 0
            reach(0)                    -> 2
            """);
    }

    private static void frontiers() {
        valley("14: frontiers", """
            frontiers(0..3, 0..3)       -> 0 none none none  0 none none none  1 1 0 1  1 0 1 none
            forge(0, 1)                 -> 20
            frontiers(0..1, 0..3)       -> 0 1 none none  0 1 2 3
            undo()                      -> yes
            week()                      -> 1 2 3
            frontiers(0..3, 0..3)       -> 0 1 1 none  0 1 1 2  1 1 0 1  1 0 1 2
            without abe nobody speaks at the fair
            go(2, 3)                    -> yes
            frontiers(0..3, 0..3)       -> 0 1 1 none  0 1 1 none  2 2 1 0  1 0 1 2
            go(3, 2)                    -> yes
            frontiers(0..3, 0..3)       -> 0 1 1 none  0 1 1 2  2 2 1 0  1 1 0 1
            shave(0)                    -> yes
            frontiers(0..1, 0..3)       -> 0 none none none  0 none none none
            undo()                      -> yes yes
            frontiers(3, 0..3)          -> 1 0 1 2
            frontiers(0, -1)            -> none
            frontiers(0, 4)             -> none
            frontiers(-1, 0)            -> none
            frontiers(4, 0)             -> none
            """);
    }

    private static void when() {
        valley("15: when", """
            when(0..3, 0..3)            -> 0 1 3 7  0 1 1 1  0 0 0 0  0 0 0 2
            week()                      -> 1
            when(0..3, 0..3)            -> 0 0 2 6  0 0 0 0  0 0 0 0  0 0 0 1
            forge(0, 4)                 -> 8
            when(0, 0..3)               -> 0 0 0 4
            shave(0)                    -> yes
            when(0..1, 0..3)            -> 0 2 4 8  0 2 2 2
            old has left the gate: flo goes to the fair by ada, in the 4th week
            go(3, 2)                    -> yes
            when(0..1, 0..3)            -> 0 2 4 8  0 2 4 4
            undo()                      -> yes yes yes
            when(0, 0..3)               -> 0 0 2 6
            count(4)                    -> 1
            when(0, -1)                 -> none
            when(0, 4)                  -> none
            when(-1, 0)                 -> none
            when(4, 0)                  -> none
            """);
        Script.run("15: when, by weeks", """
            land town a asks 0;town b asks 4;town c asks 2;road a b;road b c;person p plain at a beard 0 purse 0;grows 0;reads weeks=asked*3; -> 0
            when(0, 0..2)               -> 0 12 none
            week()                      -> 1 2 3 4 5 6 7 8 9 10 11
            when(0, 0..2)               -> 0 1 none
            week()                      -> 12
            when(0, 0..2)               -> 0 0 none
            mark(0, false)              -> yes
            go(0, 1)                    -> yes
            when(0, 0..2)               -> none 0 none
            mark(0, true)               -> yes
            week()                      -> 13
            when(0, 0..2)               -> 0 none none
            land town a asks 0;town b asks 20;town c asks 21;road a b;road a c;person p plain at a beard 0 purse 0;reads weeks=asked+79; -> 0
            when(0, 0..2)               -> 0 99 none
            week()                      -> 1
            when(0, 0..2)               -> 0 98 99
            """);
    }

    private static void round() {
        valley("16: round", """
            round(0..3)                 -> 7 1 0 2
            week()                      -> 1
            round(0..3)                 -> 6 0 0 1
            go(0, 1)                    -> yes
            shave(0)                    -> yes
            round(0..3)                 -> 8 none 0 1
            undo()                      -> yes yes
            round(0..3)                 -> 6 0 0 1
            the inn alone is left to old when he has been in the capital
            go(3, 2)                    -> yes
            week()                      -> 2
            go(3, 3)                    -> yes
            round(3)                    -> 0
            shave(3)                    -> yes
            round(3)                    -> 2
            week()                      -> 3
            round(3)                    -> 1
            week()                      -> 4
            go(3, 2)                    -> yes
            shave(3)                    -> yes
            go(3, 0)                    -> yes
            round(3)                    -> 0
            shave(3)                    -> yes
            round(3)                    -> 0
            round(-1)                   -> none
            round(4)                    -> none
            land town a asks 0;town b asks 0;person p bishop at b beard 0 purse 0; -> 0
            round(0)                    -> none
            land town a asks 20;town b asks 21;road a b;person p plain at a beard 0 purse 0;reads weeks=asked+79; -> 0
            round(0)                    -> none
            week()                      -> 1
            round(0)                    -> 99
            """);
    }

    private static void guide() {
        valley("18: guide", """
            guide(0..3, 0..3)           -> none none none none  none none none none  0 1 none 3  0 none 2 none
            week()                      -> 1 2 3
            guide(0..3, 0..3)           -> none 1 2 none  none 1 2 2  0 1 none 3  0 none 2 2
            go(2, 3)                    -> yes
            guide(1..2, 0..3)           -> none 1 2 none  2 2 2 none
            undo()                      -> yes yes
            guide(0, 0..3)              -> none 1 none none
            guide(0, -1)                -> none
            guide(0, 4)                 -> none
            guide(-1, 0)                -> none
            guide(4, 0)                 -> none
            """);
        Script.run("18: guide, round a ring", """
            land town a asks 0;town b asks 9;town c asks 0;town d asks 0;town e asks 0;town f asks 0;road f a;road e f;road d e;road c d;road b c;road a b;person p plain at a beard 8 purse 9; -> 0
            guide(0, 0..5)              -> none none 5 5 5 5
            to d it is as far by b as by f
            forge(0, 1)                 -> 7
            guide(0, 0..5)              -> none 1 1 1 5 5
            go(0, 5)                    -> yes
            guide(0, 0..5)              -> 0 0 0 4 4 none
            shave(0)                    -> yes
            guide(0, 0..5)              -> 0 none 4 4 4 none
            """);
    }

    private static void trapped() {
        valley("21: trapped", """
            trapped()                   -> 3
            forge(0, 1)                 -> 20
            trapped()                   -> 0
            go(0, 1)                    -> yes
            trapped()                   -> 2
            shave(0)                    -> yes
            trapped()                   -> 2
            go(0, 0)                    -> yes
            trapped()                   -> 3
            week()                      -> 1
            trapped()                   -> 3
            week()                      -> 2
            trapped()                   -> 0
            go(3, 2)                    -> yes
            go(3, 3)                    -> yes
            trapped()                   -> 0
            shave(3)                    -> yes
            trapped()                   -> 8
            undo()                      -> yes
            trapped()                   -> 0
            land town a asks 0;town b asks 0;person p bishop at b beard 9 purse 9;person q plain at a beard 9 purse 9; -> 0
            trapped()                   -> 3
            """);
    }

    private static void meeting() {
        Script.run("23: meeting", """
            land town hill asks 10;town dale asks 8;town moor asks 8;road hill dale;road dale moor;person kit plain at hill beard 2 purse 8;person lou plain at moor beard 5 purse 8;grows 2;inch 2; -> 0
            kit: 0 3 3, lou: 3 2 0
            meeting(0..1)               -> 3 0
            week()                      -> 1
            meeting(0..1)               -> 2 0
            kit: 1 0 0 then
            forge(0, 4)                 -> 0
            meeting(0..1)               -> 0 2
            go(0, 1)                    -> yes
            meeting(0..1)               -> 0 2
            kit without a beard stays in the dale, lou comes in a week
            shave(0)                    -> yes
            meeting(0..1)               -> 1 1
            week()                      -> 2
            meeting(0..1)               -> 0 1
            shave(1)                    -> yes
            meeting(0..1)               -> 3 2
            undo()                      -> yes yes yes
            meeting(0..1)               -> 0 2
            meeting(-1)                 -> none
            meeting(2)                  -> none
            land town a asks 0;town b asks 0;person p bishop at a beard 0 purse 0;person q bishop at b beard 0 purse 0; -> 0
            meeting(0..1)               -> none none
            """);
        valley("23: meeting, of all kinds", """
            meeting(0..1)               -> 0 0
            go(2, 3)                    -> yes
            shave(3)                    -> yes
            meeting(0..1)               -> 0 0
            abe goes back, ada comes to the fair, flo follows by nobody
            week()                      -> 1 2 3
            go(0, 2)                    -> yes
            shave(0)                    -> yes
            meeting(0..1)               -> 0 0
            """);
    }

    private static void speakers() {
        valley("24: speakers", """
            speakers(1, 0..3)           -> 1 0 0 0
            forge(0, 1)                 -> 20
            speakers(1, 0..3)           -> 1 1 0 0
            go(3, 0)                    -> yes
            speakers(1, 0..3)           -> 9 9 8 0
            week()                      -> 1
            speakers(1, 0..3)           -> 9 9 8 0
            week()                      -> 2
            speakers(1, 0..3)           -> 9 9 9 8
            go(1, 2)                    -> yes
            speakers(1, 0..3)           -> 4 4 4 4
            go(0, 2)                    -> yes
            speakers(1, 0..3)           -> 5 5 5 4
            go(2, 3)                    -> yes
            speakers(1, 0..3)           -> 1 1 1 0
            shave(0)                    -> yes
            speakers(1, 0..3)           -> 1 0 0 0
            undo()                      -> yes yes
            speakers(1, 0..3)           -> 5 5 5 4
            speakers(0, 0)              -> none
            speakers(2..3, 0)           -> none none
            speakers(-1, 0)             -> none
            speakers(4, 0)              -> none
            speakers(1, -1)             -> none
            speakers(1, 4)              -> none
            """);
    }

    private static void stricter() {
        valley("30: stricter", """
            stricter(0..3, 0)           -> 15 12 12 4
            old has 6 of 4, 7, 10, 16
            stricter(0..3, 9)           -> 15 12 4 4
            forge(0, 1)                 -> 20
            stricter(0..3, 0)           -> 15 15 14 6
            stricter(0..3, 1)           -> 15 12 12 4
            week()                      -> 1
            ada has 9: of gate with 3 more, not with 4
            stricter(1, 3..4)           -> 15 12
            old has 9 of 12 + 7, halved, not of 12 + 8
            stricter(2, 7..8)           -> 12 4
            town(0..3, 0)               -> 0 6 12 24
            reach(0..3)                 -> 3 15 15 7
            stricter(0, 10)             -> none
            stricter(0, -1)             -> none
            stricter(-1, 0)             -> none
            stricter(4, 0)              -> none
            shave(0)                    -> yes
            stricter(1, 0)              -> 12
            """);
    }

    private static void need() {
        valley("17: need", """
            need(0..3, 0..3)            -> 0 1 7 19  0 none none none  0 0 0 0  0 0 0 6
            forge(0, 3)                 -> 12
            need(0, 0..3)               -> 0 0 4 16
            shave(0)                    -> yes
            need(0, 0..3)               -> 0 6 12 none
            week()                      -> 1
            need(0, 0..3)               -> 0 3 9 none
            week()                      -> 2
            need(0, 0..3)               -> 0 0 6 18
            ada speaks for flo then
            need(1, 0..3)               -> 0 0 0 0
            need(3, 0..3)               -> 0 0 0 0
            undo()                      -> yes
            need(0, 0..3)               -> 0 3 9 none
            no more than 20 in all
            forge(0, 3)                 -> 0
            need(0, 0..3)               -> 0 0 6 none
            undo()                      -> yes
            need(0, -1)                 -> none
            need(0, 4)                  -> none
            need(-1, 0)                 -> none
            need(4, 0)                  -> none
            person(0, 2..4)             -> 3 0 12
            """);
        Script.run("17: need, by a law", """
            with 7 false inches to b, with 9 in all to c behind it
            land town a asks 0;town b asks 5;town c asks 9;road a b;road b c;person p plain at a beard 2 purse 4;reads long=asked or(false=7 and asked=5); -> 0
            need(0, 0..2)               -> 0 3 7
            forge(0, 1)                 -> 2
            need(0, 0..2)               -> 0 2 6
            week()                      -> 1
            need(0, 0..2)               -> 0 1 none
            forge(0, 1)                 -> 0
            need(0, 0..2)               -> 0 0 none
            """);
    }

    private static void cheapest() {
        valley("19: cheapest", """
            cheapest(0..3)              -> 1 none none 3
            forge(0, 1)                 -> 20
            cheapest(0)                 -> 2
            forge(0, 5)                 -> 0
            cheapest(0)                 -> 2
            week()                      -> 1
            cheapest(0)                 -> 3
            shave(0)                    -> yes
            cheapest(0)                 -> 1
            week()                      -> 2
            cheapest(0..3)              -> 1 none none none
            undo()                      -> yes
            cheapest(3)                 -> 3
            cheapest(-1)                -> none
            cheapest(4)                 -> none
            """);
        Script.run("19: cheapest, of equal ones", """
            land town a asks 0;town b asks 9;town c asks 4;town d asks 4;road a b;road a c;road a d;person p plain at a beard 1 purse 0; -> 0
            cheapest(0)                 -> 2
            week()                      -> 1 2
            cheapest(0)                 -> 2
            week()                      -> 3
            cheapest(0)                 -> 1
            week()                      -> 4 5 6 7 8
            cheapest(0)                 -> none
            shave(0)                    -> yes
            cheapest(0)                 -> 2
            """);
    }

    private static void debt() {
        valley("20: debt", """
            debt(0..3, 0..3)            -> 0 0 4 52  0 none none none  0 0 0 0  0 0 0 13
            forge(0, 3)                 -> 12
            debt(0, 0..3)               -> 0 0 4 52
            week()                      -> 1
            debt(0, 0..3)               -> 0 0 0 40
            debt(1, 0..3)               -> 0 0 0 0
            debt(3, 0..3)               -> 0 0 0 1
            shave(0)                    -> yes
            debt(0, 0..3)               -> 0 12 36 none
            undo()                      -> yes yes yes
            debt(0, 0..3)               -> 0 0 4 52
            debt(0, -1)                 -> none
            debt(0, 4)                  -> none
            debt(-1, 0)                 -> none
            debt(4, 0)                  -> none
            """);
    }

    private static void shaven() {
        valley("22: shaven", """
            shaven(0..3)                -> 1 1 15 3
            forge(0, 1)                 -> 20
            shaven(0..3)                -> 1 15 15 3
            go(0, 1)                    -> yes
            shaven(0..3)                -> 3 1 15 3
            go(3, 2)                    -> yes
            shaven(3)                   -> 5
            person(0..3, 2)             -> 6 3 0 6
            undo()                      -> yes yes
            shaven(0..3)                -> 1 15 15 3
            shaven(-1)                  -> none
            shaven(4)                   -> none
            a razor opens where long beards are barred
            land town a asks 5;town b asks 9;road a b;person p plain at a beard 9 purse 9;reads long<asked; -> 0
            reach(0)                    -> 1
            shaven(0)                   -> 3
            forge(0, 1)                 -> 7
            shaven(0)                   -> 3
            shave(0)                    -> yes
            reach(0)                    -> 3
            """);
    }

    private static void strict() {
        valley("25: strict", """
            4, 2, 2, 1 of them are let through
            strict()                    -> 3
            week()                      -> 1 2 3 4 5 6
            with 23 inches ada lacks one
            strict()                    -> 3
            forge(0, 1)                 -> 20
            strict()                    -> 0
            flo has nobody at the inn
            go(0, 1)                    -> yes
            strict()                    -> 0
            shave(3)                    -> yes
            strict()                    -> 1
            undo()                      -> yes yes yes
            strict()                    -> 3
            land town a asks 2;town b asks 5;town c asks 5;person p plain at a beard 3 purse 9; -> 0
            strict()                    -> 1
            forge(0, 2)                 -> 5
            strict()                    -> 0
            shave(0)                    -> yes
            strict()                    -> 0
            land                        -> 0
            strict()                    -> none
            """);
    }

    private static void alike() {
        valley("26: alike", """
            15 12 12 4
            alike()                     -> 1
            15 15 12 4
            forge(0, 1)                 -> 20
            alike()                     -> 1
            15 15 15 12
            week()                      -> 1 2
            alike()                     -> 3
            15 14 14 14
            go(2, 0)                    -> yes
            shave(0)                    -> yes
            alike()                     -> 3
            15 6 6 6
            shave(3)                    -> yes
            alike()                     -> 3
            undo()                      -> yes yes
            15 15 15 14
            alike()                     -> 3
            week()                      -> 3 4 5 6
            alike()                     -> 6
            land town a asks 1;town b asks 2;town c asks 3; -> 0
            alike()                     -> 3
            """);
    }

    private static void see() {
        valley("27: see", """
            see(1, true)                -> yes
            see(3, false)               -> yes
            see(4, true)                -> no
            see(-1, false)              -> no
            count(9)                    -> 2
            lengths(0..2)               -> 18 6 23
            mark(0, false)              -> yes
            week()                      -> 1
            see(2, true)                -> yes
            lengths(0..2)               -> 12 12 23
            it is not undone
            undo()                      -> yes no
            count(9)                    -> 3
            see(0, true)                -> yes yes yes yes yes
            count(9)                    -> 8
            see(2, false)               -> no
            lengths(0..2)               -> 12 12 23
            mark(0, true)               -> yes
            count(9)                    -> 2
            see(2, false)               -> yes
            lengths(0..2)               -> 6 6 11
            land town a asks 30;        -> 0
            count(9)                    -> 0
            see(0, true)                -> yes
            lengths(0..2)               -> 1 30 30
            """);
    }

    private static void lengths() {
        valley("28: lengths", """
            lengths(-1..3)              -> none 31 0 30 none
            see(1, true)                -> yes
            lengths(0..2)               -> 25 6 30
            see(3, false)               -> yes
            lengths(0..2)               -> 18 6 23
            see(2, true)                -> yes
            lengths(0..2)               -> 12 12 23
            see(2, false)               -> yes
            lengths(-1..3)              -> none 0 none none none
            see(0, true)                -> yes
            lengths(0..2)               -> 0 none none
            of a plain one, none of whose inches are forged
            land town a asks 1;town b asks 30;reads not(long<asked)and false=0; -> 0
            mark(0, false)              -> yes
            see(0, false)               -> yes
            lengths(0..2)               -> 1 0 0
            mark(0, true)               -> yes
            see(1, true)                -> yes
            lengths(0..2)               -> 1 30 30
            """);
        Script.run("28: lengths, by weeks", """
            land town a asks 10;town b asks 20;reads not(long+weeks<asked); -> 0
            see(0, false)               -> yes
            lengths(0..2)               -> 10 0 9
            week()                      -> 1 2 3 4
            lengths(0..2)               -> 10 0 9
            see(0, true)                -> yes
            lengths(0..2)               -> 4 6 9
            undo()                      -> yes yes
            lengths(0..2)               -> 4 6 9
            see(0, false)               -> yes
            lengths(0..2)               -> 2 6 7
            """);
    }

    private static void ask() {
        valley("29: ask", """
            31, 25, 19, 24 of 31
            ask()                       -> 2
            see(2, true)                -> yes
            ask()                       -> 3
            mark(1, false)              -> yes
            see(3, false)               -> yes
            ask()                       -> none
            mark(1, true)               -> yes
            ask()                       -> 3
            land town a asks 0;town b asks 14;town c asks 16;town d asks 15; -> 0
            17, 16, 16 of 31
            ask()                       -> 2
            see(1, false)               -> yes
            ask()                       -> none
            see(1, true)                -> yes
            ask()                       -> none
            """);
        Script.run("29: ask, by weeks", """
            land town a asks 10;town b asks 20;reads not(long+weeks<asked); -> 0
            see(0, false)               -> yes
            ask()                       -> none
            week()                      -> 1 2 3 4
            see(0, true)                -> yes
            6 to 9 are left
            ask()                       -> none
            undo()                      -> yes
            ask()                       -> 0
            week()                      -> 4 5 6 7 8 9 10 11 12
            8 and more are let through by b
            ask()                       -> 1
            """);
    }

    private static void rests() {
        valley("31: rests", """
            neither gets more by the other: all but reads and grows, which costs 1
            rests(0, 0, -1..3)          -> 3 0 1 3 throws
            he reads one who forges: it costs the traveller nothing
            rests(0, 1, -1..1)          -> 1 3 throws
            rests(0, 9, -1..1)          -> 1 3 throws
            he waves to one who grows: to forge is worth nothing
            rests(1, 0, -1..1)          -> 1 0 throws
            rests(9, 0, -1..1)          -> 1 0 throws
            week()                      -> 1
            shave(0)                    -> yes
            rests(1, 1, -1..0)          -> 0 throws
            rests(9, 9, -1..0)          -> 0 throws
            rests(-1, 0, -1)            -> throws
            rests(10, 0, -1)            -> throws
            rests(0, -1, -1)            -> throws
            rests(0, 10, -1)            -> throws
            rests(0, 0, -2)             -> throws
            undo()                      -> yes yes
            rests(0, 0, -1..3)          -> 3 0 1 3 throws
            count(10)                   -> 0
            """);
    }

    /** The answers were worked out apart from any Java, by a few lines of another language. */
    private static void years() {
        valley("32: years", """
            years(1, 1, 0..2)           -> 2 2 13
            years(1, 2, 0..2)           -> 4 2 11
            years(1, 5, 0..2)           -> 9 2 6
            years(1, 20, 0..2)          -> 34 7 11
            years(1, 99, 0..2)          -> 155 30 7
            years(0, 1, 0..2)           -> 0 0 7
            years(0, 99, 0..2)          -> 183 30 11
            years(9999, 1, 0..2)        -> 1 2 11
            years(9999, 99, 0..2)       -> 164 30 11
            all is as ahead then
            count(0..11)                -> 4 4 3 4 0 7 0 49 0 0 0 0
            person(0..3, 2)             -> 5 3 0 6
            person(0..3, 5)             -> 1 1 4 2
            from now on
            week()                      -> 1
            go(0, 1)                    -> yes
            years(1, 1, 0..2)           -> 2 2 15
            years(1, 5, 0..2)           -> 10 2 6
            years(7, 1, 0..2)           -> 3 0 13
            years(7, 20, 0..2)          -> 36 7 11
            undo()                      -> yes yes
            years(7, 1, 0..2)           -> 2 0 13
            years(7, 20, 0..2)          -> 35 7 11
            years(1, 1, -1)             -> none
            years(1, 1, 3)              -> none
            years(1, 0, 0)              -> none
            years(1, 100, 0)            -> none
            years(-1, 1, 0)             -> none
            years(10000, 1, 0)          -> none
            """);
    }
}
