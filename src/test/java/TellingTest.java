/** Promises 1 to 4: a new object, the tape, lands and journeys told. */
public final class TellingTest {
    private static final String FOUR = "town a asks 1;town b asks 2;person p plain at a beard 3 purse 4;";

    public static void main(String[] args) {
        newObject();
        feed();
        landTold();
        landFaults();
        nameFaults();
        tooMany();
        lawFaults();
        journeyTold();
        journeyFaults();
        whatStays();
        Probe.end("TellingTest");
    }

    private static void newObject() {
        Probe probe = new Probe();
        int[] due = {0, 0, 1, 2, 0, 0, 0, 0, 0, 0, 0, 0};
        for (int what = 0; what < due.length; what++) {
            Probe.same("new count " + what, probe.pass.count(what), due[what]);
        }
        Probe.same("new person", probe.pass.person(0, 0), -1);
        Probe.same("new town", probe.pass.town(0, 0), -1);
        Probe.same("new undo", probe.pass.undo(), false);
        Probe.same("new mark", probe.pass.mark(0, true), false);
        Probe.same("new lengths", probe.pass.lengths(0), 31);
        Probe.same("new go", probe.pass.go(0, 0), false);
        Probe.same("new shave", probe.pass.shave(0), false);
        Probe.same("new forge", probe.pass.forge(0, 1), -1);
        Probe.same("new see", probe.pass.see(0, true), false);
        Probe.same("new trapped", probe.pass.trapped(), 0);
        Probe.same("NONE", BeardPass.NONE, -1);
    }

    private static void feed() {
        Probe probe = new Probe();
        Probe.same("no signs", probe.pass.feed(0, 0, 0), 0);
        Probe.same("signs left out", probe.pass.feed(0x1f7f80ff0a207e09L, -1, 0x0d0b000102030405L), 3);
        Probe.same("highest first", probe.pass.feed(0x67726f7773203500L, 0x3b00000000000000L, 0), 11);
        Probe.same("a sign that is none, at 2", probe.pass.land(), 1 + 16 * 2);
        Probe.same("taken", probe.pass.count(11), 0);
        Probe.same("24 signs", probe.feed("grows 4;inch 3;         "), 24);
        Probe.same("order of a, b, c", probe.pass.land(), 0);
        Probe.same("grows", probe.pass.count(2), 4);
        Probe.same("inch", probe.pass.count(3), 3);
        Probe.same("up to 1,000", probe.feed(" ".repeat(990) + "grows 3;;;;;;"), 1000);
        Probe.same("beyond 1,000", probe.pass.feed(0x4142434445464748L, 0, 0), 1000);
        Probe.same("the last of 1,000", probe.pass.land(), 1 + 16 * 998);
        probe.feed(" ".repeat(992) + "grows 3;inch 0;");
        Probe.same("cut behind 1,000", probe.pass.land(), 0);
        Probe.same("grows", probe.pass.count(2), 3);
        probe.feed(" ".repeat(993) + "grows 3;");
        Probe.same("the end at 1,000", probe.pass.land(), 1 + 16 * 1000);
    }

    private static void landTold() {
        Probe probe = Probe.of("");
        Probe.same("no town", probe.pass.count(0), 0);
        probe = Probe.of(" \n town\na asks 0 ;town\tb asks 030;road b a;".replace("\t", " ")
            + "person long smooth at b beard 30purse 99;person weeks grey at a beard 0 purse 0000;"
            + "reads((long))<asked;inch 9;grows 0; \n ");
        BeardPass pass = probe.pass;
        int[] due = {2, 2, 0, 9, 0, 3, 0, 99, 0, 0, 0, 0};
        for (int what = 0; what < due.length; what++) {
            Probe.same("told count " + what, pass.count(what), due[what]);
        }
        Probe.same("asks", pass.town(1, 0), 30);
        Probe.same("both ways", pass.town(0, 1) * 4 + pass.town(1, 1), 2 * 4 + 1);
        Probe.same("kind", pass.person(1, 0), 3);
        // asked of a is 0, of b 30, of the grey one half of it
        Probe.same("law of b", pass.town(1, 2), 2 + 0);
        Probe.same("law of a", pass.town(0, 2), 0);
        Probe.same("as untold", probe.land("town a asks 9;person p plain at a beard 9 purse 0;"), 0);
        Probe.same("law as untold", pass.town(0, 2), 1);
        Probe.same("grows as untold", pass.count(2), 1);
        Probe.same("inch as untold", pass.count(3), 2);
    }

    private static void landFaults() {
        Probe probe = new Probe();
        probe.landFault(1, "@go a b;");
        probe.landFault(1, "@;");
        probe.landFault(1, "@7");
        probe.landFault(1, "town @asks 3;");
        probe.landFault(1, "town @not asks 3;");
        probe.landFault(1, "town @3 asks 3;");
        probe.landFault(1, "town a @ask 3;");
        probe.landFault(1, "town a asks @b;");
        probe.landFault(1, "town a asks 3 @town");
        probe.landFault(1, "town a asks 3@");
        probe.landFault(1, "town a asks 3  \n @");
        probe.landFault(1, "town @A asks 3;");
        probe.landFault(1, "town @abcdefghi asks 3;");
        probe.landFault(1, "town abcdefgh asks @12345;");
        probe.landFault(4, "town abcdefgh asks @1234;");
        probe.landFault(4, "town a asks @31;");
        probe.landFault(1, "town a asks 3@,");
        probe.landFault(1, "road @road");
        probe.landFault(1, FOUR + "person q plain @in");
        probe.landFault(1, FOUR + "person q @a");
        probe.landFault(1, FOUR + "person q plain@;");
        probe.landFault(1, FOUR + "person q plain at a@;");
        probe.landFault(1, "town a@;");
        probe.landFault(1, "road@;");
        probe.landFault(1, "grows@;");
        probe.landFault(1, FOUR + "person q plain at a beard 3@;");
        probe.landFault(4, FOUR + "person q plain at a beard @31 purse 100;");
        probe.landFault(4, FOUR + "person q plain at a beard 30 purse @100;");
        probe.landFault(4, "grows @6;");
        probe.landFault(1, "grows @-1;");
        probe.landFault(4, "inch @0;");
        probe.landFault(4, "inch @10;");
        probe.landFault(3, "grows 1;@grows 2;");
        probe.landFault(3, "inch 1;grows 1;@inch 2;");
        probe.landFault(3, "reads 1;@reads 2;");
        probe.landFault(1, "reads 1@reads 2;");
    }

    private static void nameFaults() {
        Probe probe = new Probe();
        probe.landFault(2, "road @a b;");
        probe.landFault(2, FOUR + "road a @c;");
        probe.landFault(2, FOUR + "road a @p;");
        probe.landFault(2, FOUR + "road @p a;");
        probe.landFault(3, FOUR + "road a @a;");
        probe.landFault(3, FOUR + "road a b;road a @b;");
        probe.landFault(3, FOUR + "road a b;road b @a;");
        probe.landFault(3, FOUR + "town @a asks 40;");
        probe.landFault(3, FOUR + "town @p asks 1;");
        probe.landFault(3, FOUR + "person @p king");
        probe.landFault(3, FOUR + "person @b plain at a beard 1 purse 1;");
        probe.landFault(2, FOUR + "person q bishop at @q beard 1 purse 1;");
        probe.landFault(2, FOUR + "person q grey at @c");
        String[] kept = {"town", "asks", "road", "person", "at", "beard", "purse", "grows", "inch", "reads",
            "go", "forge", "shave", "week", "plain", "smooth", "bishop", "grey", "not", "and", "or"};
        for (String word : kept) {
            probe.landFault(1, "town @" + word + " asks 1;");
        }
        for (String word : new String[] {"long", "false", "asked", "weeks", "towns", "roa", "a", "abcdefgh", "zaz", "zzzzzzzz"}) {
            Probe.same("name " + word, probe.land("town " + word + " asks 1;"), 0);
        }
    }

    private static void tooMany() {
        Probe probe = new Probe();
        StringBuilder six = new StringBuilder();
        for (char name = 'a'; name <= 'f'; name++) {
            six.append("town ").append(name).append(" asks 1;");
        }
        for (char name = 'g'; name <= 'l'; name++) {
            six.append("person ").append(name).append(" plain at a beard 1 purse 1;");
        }
        Probe.same("six of each", probe.land(six.toString()), 0);
        probe.landFault(5, six + "@town a asks 99;");
        probe.landFault(5, six + "@person");
    }

    private static void lawFaults() {
        Probe probe = new Probe();
        probe.landFault(1, "reads @;");
        probe.landFault(1, "reads @week;");
        probe.landFault(1, "reads @and 1;");
        probe.landFault(1, "reads 1 and @and;");
        probe.landFault(1, "reads 1 @2;");
        probe.landFault(1, "reads 1<2@<3;");
        probe.landFault(1, "reads 1=2@<3;");
        probe.landFault(1, "reads @-1;");
        probe.landFault(1, "reads (1@;");
        probe.landFault(1, "reads 1@);");
        probe.landFault(1, "reads (@);");
        probe.landFault(1, "reads 1@/2;");
        probe.landFault(1, "reads 1+@+2;");
        probe.landFault(1, "reads 12*@12345;");
        probe.landFault(1, "reads long @not asked;");
        probe.landFault(1, "reads 1 @long;");
        probe.landFault(1, "reads @longer;");
        Probe.same("within 4", probe.land("reads ((((1))));"), 0);
        probe.landFault(5, "reads (((((@1)))));");
        probe.landFault(5, "reads (((((@(1))))));");
        probe.landFault(5, "reads (((((@not 1)))));");
        probe.landFault(5, "reads (((((@long;");
        probe.landFault(1, "reads (((((@);");
        probe.landFault(1, "reads (((((@week;");
        probe.landFault(1, "reads (((((@");
        Probe.same("within 4 of not", probe.land("reads not not not not 1;"), 0);
        probe.landFault(5, "reads not not not not not @1;");
        probe.landFault(5, "reads not not not not not @not 1;");
        probe.landFault(5, "reads not (not (not @9999");
        probe.landFault(1, "reads not (not (not @99999");
        probe.landFault(5, "reads 1 and (2 or (not (not @(not long);");
        Probe.same("numbers of four", probe.land("reads 9999and 1;"), 0);
    }

    private static void journeyTold() {
        Probe probe = Probe.of(FOUR);
        Probe.same("none", probe.journey(" \n"), 0);
        Probe.same("no lines", probe.pass.count(8), 0);
        Probe.same("four", probe.journey("go p b;forge p 20;shave p;week;\n"), 0);
        Probe.same("four lines", probe.pass.count(8), 4);
        Probe.same("taken", probe.pass.count(11), 0);
        Probe.same("forty", probe.journey("week;".repeat(40)), 0);
        Probe.same("forty lines", probe.pass.count(8), 40);
        Probe.same("one", probe.journey("week;"), 0);
        Probe.same("one line", probe.pass.count(8), 1);
    }

    private static void journeyFaults() {
        Probe probe = Probe.of(FOUR);
        probe.journeyFault(5, "week;".repeat(40) + "@week;");
        probe.journeyFault(5, "week;".repeat(40) + "@go 1");
        probe.journeyFault(1, "week;".repeat(40) + "@town");
        probe.journeyFault(1, "week@");
        probe.journeyFault(1, "@town a asks 1;");
        probe.journeyFault(1, "go @go");
        probe.journeyFault(2, "go @q b;");
        probe.journeyFault(2, "go @a b;");
        probe.journeyFault(2, "go p @c;");
        probe.journeyFault(2, "go p @p;");
        probe.journeyFault(1, "go p @5;");
        probe.journeyFault(1, "go p @");
        probe.journeyFault(2, "forge @a 1;");
        probe.journeyFault(4, "forge p @0;");
        probe.journeyFault(4, "forge p @21;");
        probe.journeyFault(1, "forge p @b;");
        probe.journeyFault(2, "shave @b;");
        probe.journeyFault(1, "shave @;");
        probe.journeyFault(1, "week @p;");
        probe.journeyFault(1, "shave p @20;");
    }

    private static void whatStays() {
        Probe probe = Probe.of(FOUR + "road a b;");
        BeardPass pass = probe.pass;
        Probe.same("journey", probe.journey("go p b;week;"), 0);
        pass.week();
        pass.see(0, true);
        pass.mark(2, false);
        pass.go(0, 1);
        probe.landFault(4, "town a asks @99;");
        probe.journeyFault(1, "@town");
        Probe.same("towns stay", pass.count(0), 2);
        Probe.same("week stays", pass.count(4), 1);
        Probe.same("lines stay", pass.count(8), 2);
        Probe.same("seen stays", pass.count(9), 1);
        Probe.same("undo stays", pass.count(10), 2);
        Probe.same("mark stays", pass.mark(2, true), true);
        Probe.same("land", probe.land(FOUR), 0);
        Probe.same("no week", pass.count(4), 0);
        Probe.same("no lines", pass.count(8), 0);
        Probe.same("nothing seen", pass.count(9), 0);
        Probe.same("all lengths", pass.lengths(0), 31);
        Probe.same("nothing undone", pass.count(10), 0);
        Probe.same("no mark", pass.mark(2, true), false);
        Probe.same("no road", pass.town(0, 1), 0);
        Probe.same("been", pass.person(0, 5), 1);
    }
}
