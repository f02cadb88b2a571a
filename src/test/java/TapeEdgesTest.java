/** Edges of the TAPE and of TOKENS: promises 1 and 2, and the Terms up to LAND. */
public final class TapeEdgesTest {
    private static final String TOKEN_SIGNS = "()<=+-*;";

    public static void main(String[] args) {
        nothingAtFirst();
        nothingToReadAtFirst();
        upTo24();
        onlySomeSigns();
        highestFirst();
        tokensAcrossFeeds();
        atMost1000();
        cutAt1000();
        taken();
        staysUnlessRead();
        wordsOfEight();
        numbersOfFour();
        asLongAsCanBe();
        blanksBetween();
        allElseIsNone();
        theEndIsAToken();
        Probe.end("TapeEdgesTest");
    }

    // "At first: nothing."
    private static void nothingAtFirst() {
        BeardPass pass = new BeardPass();
        int[] counts = {0, 0, 1, 2, 0, 0, 0, 0, 0, 0, 0, 0};
        for (int what = 0; what < counts.length; what++) {
            Probe.same("at first count " + what, pass.count(what), counts[what]);
        }
        for (int what = 0; what < 6; what++) {
            Probe.same("at first no person " + what, pass.person(0, what), -1);
            Probe.same("at first no town " + what, pass.town(0, what), -1);
        }
        int[] none = {pass.forge(0, 1), pass.judged(0), pass.judged(1), pass.reach(0), pass.frontiers(0, 0), pass.when(0, 0),
            pass.round(0), pass.need(0, 0), pass.guide(0, 0), pass.cheapest(0), pass.debt(0, 0), pass.shaven(0),
            pass.meeting(0), pass.meeting(1), pass.speakers(0, 0), pass.strict(), pass.ask(), pass.stricter(0, 0)};
        for (int i = 0; i < none.length; i++) {
            Probe.same("at first none, " + i, none[i], -1);
        }
        int[] zero = {pass.judged(2), pass.trapped(), pass.alike(), pass.years(0, 1, 0), pass.years(9999, 99, 1),
            pass.years(5, 9, 2), pass.lengths(1)};
        for (int i = 0; i < zero.length; i++) {
            Probe.same("at first 0, " + i, zero[i], 0);
        }
        boolean[] no = {pass.go(0, 0), pass.shave(0), pass.undo(), pass.see(0, true), pass.see(0, false), pass.mark(0, true)};
        for (int i = 0; i < no.length; i++) {
            Probe.same("at first false, " + i, no[i], false);
        }
        Probe.same("at first all lengths", pass.lengths(0), 31);
        Probe.same("at first the greatest", pass.lengths(2), 30);
        Probe.same("at first judged others", pass.judged(3), -2);
        Probe.same("at first nothing was done", pass.count(10), 0);
    }

    private static void nothingToReadAtFirst() {
        BeardPass pass = new BeardPass();
        Probe.same("no signs are a journey", pass.journey(), 0);
        Probe.same("no signs are a land", pass.land(), 0);
        Probe.same("a week of nobody", pass.week(), 1);
        Probe.same("laid", pass.mark(0, false), true);
        Probe.same("undone", pass.undo(), true);
        Probe.same("back", pass.mark(0, true), true);
        Probe.same("week 1", pass.count(4), 1);
        Probe probe = new Probe();
        Probe.same("a journey of weeks without a land", probe.journey("week;week;"), 0);
        Probe.same("two lines", probe.pass.count(8), 2);
        Probe.same("both can be", probe.pass.judged(0), -1);
        probe.journeyFault(2, "shave @a;");
    }

    // "Up to 24 signs come behind the TAPE"
    private static void upTo24() {
        BeardPass pass = new BeardPass();
        Probe.same("none", pass.feed(0, 0, 0), 0);
        Probe.same("24", pass.feed(0x6161616161616161L, 0x6161616161616161L, 0x6161616161616161L), 24);
        Probe.same("23 more", pass.feed(0x6161616161616161L, 0x6161616100616161L, 0x6161616161616161L), 47);
        Probe.same("one more", pass.feed(0, 0, 0x61L), 48);
        Probe.same("none more", pass.feed(0, 0, 0), 48);
        Probe.same("as counted", pass.count(11), 48);
    }

    // "others than 10 and 32 .. 126 ... are left out", at each of 24 places
    private static void onlySomeSigns() {
        for (int place = 0; place < 24; place++) {
            for (int sign = 0; sign < 256; sign++) {
                long[] words = new long[3];
                words[place / 8] = (long) sign << 56 - 8 * (place % 8);
                int due = sign == 10 || sign >= 32 && sign <= 126 ? 1 : 0;
                Probe.same("sign " + sign + " at " + place, new BeardPass().feed(words[0], words[1], words[2]), due);
            }
        }
    }

    // "the bytes of a, b, c, of each the highest first"; what is left out leaves no gap
    private static void highestFirst() {
        BeardPass pass = new BeardPass();
        Probe.same("grows 5; inch 9; in turn", pass.feed(0x67726f777320353bL, 0x696e636820393b0aL, 0x0a0a0a0a0a0a0a0aL), 24);
        Probe.same("a land", pass.land(), 0);
        Probe.same("grows", pass.count(2), 5);
        Probe.same("inch", pass.count(3), 9);
        Probe.same("with what is left out between", pass.feed(0x6772ff6f7f778073L, 0x2009330b3b1f0d00L, 0), 8);
        Probe.same("a land", pass.land(), 0);
        Probe.same("grows", pass.count(2), 3);
    }

    private static void tokensAcrossFeeds() {
        Probe probe = new Probe();
        for (String part : new String[] {"gr", "ows", " ", "000", "4", ";in", "ch 7", ";"}) {
            probe.feed(part);
        }
        Probe.same("as if fed at once", probe.pass.land(), 0);
        Probe.same("grows", probe.pass.count(2), 4);
        Probe.same("inch", probe.pass.count(3), 7);
    }

    // "The TAPE has at most 1,000 signs"
    private static void atMost1000() {
        Probe probe = new Probe();
        Probe.same("999", probe.feed("x".repeat(999)), 999);
        Probe.same("1,000", probe.feed("x"), 1000);
        Probe.same("no 1,001st", probe.feed("x"), 1000);
        Probe.same("none of 24", probe.feed("x".repeat(24)), 1000);
        Probe.same("as counted", probe.pass.count(11), 1000);
        Probe half = new Probe();
        Probe.same("990", half.feed("x".repeat(990)), 990);
        Probe.same("10 of 24", half.feed("x".repeat(24)), 1000);
        Probe gaps = new Probe();
        Probe.same("what is left out takes no room", gaps.feed("\u007f\tx".repeat(999)), 999);
        Probe.same("one more", gaps.feed("x"), 1000);
        Probe.same("read", gaps.pass.land(), 1);
        Probe.same("room again", gaps.feed("x".repeat(1001)), 1000);
    }

    // "what is beyond 1,000 [is] left out": it is the last that is, not the first
    private static void cutAt1000() {
        Probe probe = new Probe();
        probe.feed(" ".repeat(993) + "inch 5;grows 4;");
        Probe.same("just all of it", probe.pass.land(), 0);
        Probe.same("inch", probe.pass.count(3), 5);
        Probe.same("grows is beyond", probe.pass.count(2), 1);
        probe.feed(" ".repeat(994) + "inch 6;");
        Probe.same("without its end", probe.pass.land(), 1 + 16 * 1000);
        probe.feed(" ".repeat(995) + "inch 6;");
        Probe.same("without its number", probe.pass.land(), 1 + 16 * 1000);
        probe.feed(" ".repeat(997) + "inch 6;");
        Probe.same("cut in its word", probe.pass.land(), 1 + 16 * 997);
        Probe.same("inch stays", probe.pass.count(3), 5);
        probe.feed(" ".repeat(995) + "week;week;");
        Probe.same("a journey, likewise", probe.pass.journey(), 0);
        Probe.same("one line", probe.pass.count(8), 1);
    }

    // "what reads it takes it: it is empty then"
    private static void taken() {
        Probe probe = new Probe();
        Probe.same("a land", probe.land("grows 4;"), 0);
        Probe.same("taken", probe.pass.count(11), 0);
        Probe.same("a fault", probe.land("grows 6;"), 4 + 16 * 6);
        Probe.same("taken, too", probe.pass.count(11), 0);
        Probe.same("a journey", probe.journey("week;"), 0);
        Probe.same("taken", probe.pass.count(11), 0);
        Probe.same("a fault", probe.journey("weeks;"), 1);
        Probe.same("taken, too", probe.pass.count(11), 0);
        Probe.same("from 0 again", probe.feed("x"), 1);
        Probe.same("an empty land", probe.land(""), 1);
        Probe.same("an empty land", probe.pass.land(), 0);
        Probe.same("grows as untold", probe.pass.count(2), 1);
    }

    private static void staysUnlessRead() {
        Probe probe = Probe.of("town a asks 0;town b asks 0;road a b;person p plain at a beard 1 purse 9;");
        BeardPass pass = probe.pass;
        probe.feed("inch 4;");
        pass.mark(1, false);
        pass.go(0, 1);
        pass.forge(0, 1);
        pass.shave(0);
        pass.week();
        pass.undo();
        pass.see(0, true);
        pass.judged(0);
        pass.mark(1, true);
        Probe.same("seven signs yet", pass.count(11), 7);
        Probe.same("as fed", pass.land(), 0);
        Probe.same("inch", pass.count(3), 4);
    }

    // "WORDS (letters a .. z, 8 at most)", "a longer WORD ... at its first sign"
    private static void wordsOfEight() {
        Probe probe = new Probe();
        Probe.same("8", probe.land("town abcdefgh asks 1;"), 0);
        probe.landFault(1, "town @abcdefghi asks 1;");
        probe.landFault(1, "town @abcdefghijklmnopqrstuvwxyz asks 1;");
        probe.landFault(1, "@townships a asks 1;");
        probe.landFault(1, "@towntowntown");
        Probe.same("all 8 count", probe.land("town abcdefgh asks 1;town abcdefgi asks 2;town bbcdefgh asks 2;"), 0);
        probe.landFault(3, "town abcdefgh asks 1;town @abcdefgh asks 2;");
        probe.landFault(1, "reads @longlongl;");
        Probe.same("a to z", probe.land("town abcdefz asks 1;town a asks 1;town z asks 1;"), 0);
        for (char sign : new char[] {'A', 'Z', '`', '{', '_', '@'}) {
            Probe.same("no letter " + sign, probe.land("town " + sign + " asks 1;"), 1 + 16 * 5);
            Probe.same("no letter of a word " + sign, probe.land("town a" + sign + " asks 1;"), 1 + 16 * 6);
        }
        Probe told = Probe.of("town a asks 1;person abcdefgh plain at a beard 1 purse 1;");
        Probe.same("8 in a journey", told.journey("shave abcdefgh;"), 0);
        told.journeyFault(1, "shave @abcdefghi;");
        told.journeyFault(2, "shave @abcdefg;");
    }

    // "NUMBERS (1 to 4 digits...", "a longer ... NUMBER, too, at its first sign"
    private static void numbersOfFour() {
        Probe probe = new Probe();
        for (String number : new String[] {"7", "07", "007", "0007"}) {
            Probe.same(number, probe.land("town a asks " + number + ";"), 0);
            Probe.same(number, probe.pass.town(0, 0), 7);
        }
        probe.landFault(1, "town a asks @00007;");
        probe.landFault(1, "town a asks @12345;");
        probe.landFault(4, "town a asks @1234;");
        probe.landFault(4, "town a asks @9999;");
        probe.landFault(1, "town a asks @99999999999999999999;");
        Probe.same("9999", probe.land("reads 9999;"), 0);
        probe.landFault(1, "reads @10000;");
        probe.landFault(1, "reads @00000;");
        Probe told = Probe.of("town a asks 1;person p plain at a beard 1 purse 1;");
        Probe.same("0020", told.journey("forge p 0020;"), 0);
        told.journeyFault(1, "forge p @00020;");
    }

    // "TOKENS, each as long as can be"; "a letter may stand right behind"
    private static void asLongAsCanBe() {
        Probe probe = new Probe();
        probe.landFault(1, "@towna asks 1;");
        probe.landFault(1, "town aasks @1;");
        probe.landFault(1, "town a asks 11@a;");
        probe.landFault(4, "town a asks @31a;");
        Probe.same("a digit behind a word", probe.land("town a asks1;grows2;inch3;reads4;"), 0);
        probe.landFault(1, "town a@1 asks 1;");
        probe.landFault(1, "reads long@4;");
        Probe.same("a letter behind a number", probe.land("reads 1and 0or 3;"), 0);
        probe.landFault(1, "reads 1@a;");
        probe.landFault(1, "grows 4@inch 5;");
        probe.landFault(1, "reads @notlong;");
        Probe.same("signs stand alone", probe.land("reads not(long)*(1)+2-3<4=5;"), 1 + 16 * 25);
        probe.landFault(1, "reads 1<@<2;");
        probe.landFault(1, "reads 1<@=2;");
        Probe told = Probe.of("town a asks 1;person p plain at a beard 1 purse 1;");
        Probe.same("in a journey", told.journey("forge p20;week;"), 0);
        told.journeyFault(1, "@forgep 20;");
    }

    // "blanks (10, 32) between where one likes"
    private static void blanksBetween() {
        Probe probe = new Probe();
        Probe.same("many", probe.land("\n town \n a \n\nasks  1 \n; \n grows\n3\n;\n"), 0);
        Probe.same("told", probe.pass.count(0) * 10 + probe.pass.count(2), 13);
        Probe.same("none", probe.land("town a asks 1;reads(long)<(asked)and(not(1));"), 0);
        probe.landFault(1, "@to wn a asks 1;");
        probe.landFault(1, "town a asks 1 @2;");
        probe.landFault(4, " \n\n  grows \n\n @6;");
        Probe.same("blanks alone are a land", probe.land(" \n "), 0);
        Probe.same("of nothing", probe.pass.count(0), 0);
        Probe.same("blanks alone are a journey", probe.journey("\n\n  "), 0);
    }

    // "the signs ( ) < = + - * ;  All else ... is none"
    private static void allElseIsNone() {
        for (char sign = 33; sign < 127; sign++) {
            boolean letter = sign >= 'a' && sign <= 'z';
            boolean digit = sign >= '0' && sign <= '9';
            Probe probe = new Probe();
            Probe.same("no line begins by " + sign, probe.land(sign + "own a asks 1;"), sign == 't' ? 0 : 1);
            Probe.same("nor of a journey", probe.journey(sign + "eek;"), sign == 'w' ? 0 : 1);
            if (!letter && !digit) {
                boolean joins = "<=+-*".indexOf(sign) >= 0;
                int due = joins ? 0 : sign == ';' ? 1 + 16 * 8 : 1 + 16 * 7;
                Probe.same("between two numbers " + sign, probe.land("reads 1" + sign + "2;"), due);
                Probe.same("for a name " + sign, probe.land("town " + sign), 1 + 16 * 5);
                Probe.same("for a number " + sign, probe.land("grows " + sign), 1 + 16 * 6);
                boolean token = TOKEN_SIGNS.indexOf(sign) >= 0;
                Probe.same("a token " + sign, probe.land("reads (1" + sign), token && (joins || sign == ')') ? 1 + 16 * 9 : 1 + 16 * 8);
            }
        }
    }

    // "the end being one at the text's length"
    private static void theEndIsAToken() {
        Probe probe = new Probe();
        probe.landFault(1, "town@");
        probe.landFault(1, "town @");
        probe.landFault(1, "town   \n\n @");
        probe.landFault(1, "grows 4@");
        probe.landFault(1, "grows 4\n@");
        Probe.same("no end is missed", probe.land("grows 4;"), 0);
        probe.journeyFault(1, "week@");
        probe.journeyFault(1, "week  @");
        probe.journeyFault(1, "week;week@");
        Probe.same("no end is missed", probe.journey("week;"), 0);
    }
}
