/** Promises 13 to 24 and 30: who may go where, when, by how many inches. */
public final class WaysTest {
    /** A ring low - mid - top - far - low, and an isle that no road leads to. */
    private static final String RING = "town low asks 3;town mid asks 9;town top asks 21;town far asks 14;town isle asks 0;"
        + "road low mid;road mid top;road top far;road far low;"
        + "person pia plain at low beard 9 purse 20;person sal smooth at low beard 0 purse 9;"
        + "person bob bishop at mid beard 0 purse 1;person guy grey at top beard 7 purse 0;"
        + "grows 2;inch 4;";

    public static void main(String[] args) {
        reach();
        frontiersAndGuide();
        when();
        round();
        need();
        trappedAndShaven();
        meeting();
        speakers();
        stricter();
        others();
        Probe.end("WaysTest");
    }

    private static void reach() {
        BeardPass pass = Probe.of(RING).pass;
        Probe.same("pia", pass.reach(0), 3);
        // pia speaks for mid, there bob for top, there guy (7 of 7) for far
        Probe.same("sal", pass.reach(1), 15);
        Probe.same("bob", pass.reach(2), 15);
        // guy passes far (7) and low and mid, not top (10)
        Probe.same("guy", pass.reach(3), 15);
        pass.go(3, 3);
        Probe.same("guy does not come back", pass.reach(3), 11);
        pass.go(1, 1);
        pass.go(2, 2);
        Probe.same("nobody speaks", pass.reach(1), 2);
        Probe.same("others stay", pass.person(2, 1), 2);
    }

    private static void frontiersAndGuide() {
        BeardPass pass = Probe.of(RING).pass;
        int[][] goes = {{0, 1, -1, -1, -1}, {0, 1, 2, 3, -1}, {1, 0, 1, 2, -1}, {2, 1, 0, 1, -1}};
        int[][] first = {{-1, 1, -1, -1, -1}, {-1, 1, 1, 1, -1}, {0, -1, 2, 0, -1}, {1, 1, -1, 3, -1}};
        for (int i = 0; i < 4; i++) {
            for (int town = 0; town < 5; town++) {
                Probe.same("frontiers " + i + " " + town, pass.frontiers(i, town), goes[i][town]);
                Probe.same("guide " + i + " " + town, pass.guide(i, town), first[i][town]);
            }
        }
        // none was asked about before each of these
        Probe.same("frontiers of guy", Probe.of(RING).pass.frontiers(3, 0), 2);
        Probe.same("guide of guy", Probe.of(RING).pass.guide(3, 0), 1);
        BeardPass back = Probe.of("town a asks 0;town b asks 0;town c asks 0;town d asks 0;"
            + "road d c;road d b;road c a;road b a;person p plain at d beard 0 purse 0;").pass;
        Probe.same("of equal ones the first", back.guide(0, 0), 1);
        Probe.same("two", back.frontiers(0, 0), 2);
    }

    private static void when() {
        BeardPass pass = Probe.of(RING).pass;
        // far asks for 14: 9 + 3 * 2; top for 21: 9 + 6 * 2
        int[][] due = {{0, 0, 6, 3, -1}, {0, 0, 0, 0, -1}, {0, 0, 0, 0, -1}, {0, 0, 0, 0, -1}};
        for (int i = 0; i < 4; i++) {
            for (int town = 0; town < 5; town++) {
                Probe.same("when " + i + " " + town, pass.when(i, town), due[i][town]);
            }
        }
        Probe.same("week stays", pass.count(4), 0);
        Probe.same("beard stays", pass.person(0, 2), 9);
        BeardPass aunt = Probe.of("town a asks 0;town b asks 8;road a b;person s smooth at a beard 0 purse 0;"
            + "person p plain at a beard 5 purse 0;").pass;
        Probe.same("her aunt's beard grows", aunt.when(0, 1), 3);
        BeardPass last = Probe.of("town a asks 1;town b asks 0;town c asks 2;road a b;road b c;"
            + "person p plain at a beard 0 purse 0;grows 0;reads weeks=asked+97 or asked=0;").pass;
        Probe.same("b now", last.when(0, 1), 0);
        Probe.same("c by 99", last.when(0, 2), 99);
        last.week();
        Probe.same("c by 98", last.when(0, 2), 98);
        BeardPass never = Probe.of("town a asks 0;town b asks 1;road a b;person p plain at a beard 0 purse 0;"
            + "reads weeks=100;").pass;
        Probe.same("not by 99", never.when(0, 1), -1);
        BeardPass once = Probe.of("town a asks 1;town b asks 2;town c asks 3;road a b;road b c;"
            + "person p plain at a beard 0 purse 0;reads weeks=asked;").pass;
        Probe.same("he waits at b", once.when(0, 2), 3);
        BeardPass most = Probe.of("town a asks 0;town b asks 1;road a b;person p plain at a beard 30 purse 99;"
            + "grows 5;inch 1;reads long = 61 or long=62;").pass;
        Probe.same("60 at most", most.when(0, 1), -1);
        most.forge(0, 2);
        Probe.same("forged ones aside", most.when(0, 1), 6);
    }

    private static void round() {
        BeardPass pass = Probe.of(RING).pass;
        Probe.same("the isle", pass.round(0), -1);
        BeardPass ring = Probe.of(RING.replace("town isle asks 0;", "")).pass;
        Probe.same("pia", ring.round(0), 6);
        Probe.same("sal", ring.round(1), 0);
        Probe.same("bob", ring.round(2), 0);
        Probe.same("guy", ring.round(3), 0);
        Probe.same("guy goes", ring.go(3, 1), true);
        Probe.same("guy is shaved", ring.shave(3), true);
        // top he has been in; far asks for 7 of him: 4 weeks
        Probe.same("where he has been counts", ring.round(3), 4);
        BeardPass star = Probe.of("town mid asks 0;town a asks 0;town b asks 0;road mid a;road mid b;"
            + "person s smooth at mid beard 0 purse 0;person p plain at mid beard 0 purse 0;").pass;
        Probe.same("she reaches all", star.reach(0), 7);
        Probe.same("but not all in turn", star.round(0), -1);
        Probe.same("he can", star.round(1), 0);
        BeardPass late = Probe.of("town a asks 0;town b asks 9;road a b;person p plain at a beard 0 purse 0;"
            + "reads weeks=99;").pass;
        Probe.same("by 99", late.round(0), 99);
        BeardPass later = Probe.of("town a asks 0;town b asks 9;road a b;person p plain at a beard 0 purse 0;"
            + "reads weeks=100;").pass;
        Probe.same("not by 99", later.round(0), -1);
        later.week();
        Probe.same("by 99", later.round(0), 99);
        // in week 0 he goes to b and c, in week 1 only b is open, in week 2 only d, behind c
        BeardPass waits = Probe.of("town a asks 0;town b asks 1;town c asks 0;town d asks 9;road a b;road a c;road c b;"
            + "road c d;person p plain at a beard 0 purse 0;"
            + "reads weeks=0 and asked<9 or (weeks=1 and asked=1) or (weeks=2 and asked=9);").pass;
        Probe.same("he waits at c", waits.round(0), 2);
        BeardPass line = Probe.of("town a asks 9;town b asks 9;town c asks 9;town d asks 9;town e asks 9;town f asks 9;"
            + "road a b;road b c;road c d;road d e;road e f;person s smooth at e beard 0 purse 0;"
            + "person va bishop at a beard 0 purse 0;person vb bishop at b beard 0 purse 0;"
            + "person vc bishop at c beard 0 purse 0;person vd bishop at d beard 0 purse 0;"
            + "person ve bishop at e beard 0 purse 0;").pass;
        Probe.same("the end where nobody speaks comes last", line.round(0), 0);
        BeardPass one = Probe.of("town a asks 30;person p plain at a beard 0 purse 0;").pass;
        Probe.same("one town", one.round(0), 0);
    }

    private static void need() {
        BeardPass pass = Probe.of(RING).pass;
        int[][] due = {{0, 0, 12, 5, -1}, {0, 0, 0, 0, -1}, {0, 0, 0, 0, -1}, {0, 0, 0, 0, -1}};
        int[][] debts = {{0, 0, 28, 0, -1}, {0, 0, 0, 0, -1}, {0, 0, 0, 0, -1}, {0, 0, 0, 0, -1}};
        for (int i = 0; i < 4; i++) {
            for (int town = 0; town < 5; town++) {
                Probe.same("need " + i + " " + town, pass.need(i, town), due[i][town]);
                Probe.same("debt " + i + " " + town, pass.debt(i, town), debts[i][town]);
            }
        }
        Probe.same("cheapest", pass.cheapest(0), 3);
        Probe.same("none but the isle", pass.cheapest(1), -1);
        Probe.same("purse stays", pass.person(0, 4), 20);
        pass.forge(0, 5);
        Probe.same("7 more", pass.need(0, 2), 7);
        Probe.same("debt", pass.debt(0, 2), 28);
        Probe.same("cheapest now", pass.cheapest(0), 2);
        BeardPass rich = Probe.of("town a asks 0;town b asks 21;town c asks 21;road a b;road a c;inch 1;"
            + "person p plain at a beard 1 purse 99;person s smooth at a beard 0 purse 99;").pass;
        Probe.same("20", rich.need(0, 1), 20);
        Probe.same("no smooth one forges", rich.need(1, 1), -1);
        Probe.same("nor owes", rich.debt(1, 1), -1);
        Probe.same("nor has a cheapest", rich.cheapest(1), -1);
        Probe.same("of equal ones the first", rich.cheapest(0), 1);
        rich.forge(0, 4);
        Probe.same("no more than 20 in all", rich.need(0, 1), 16);
        rich.shave(0);
        Probe.same("21 are too many", rich.need(0, 1), -1);
        BeardPass odd = Probe.of("town a asks 0;town b asks 5;town c asks 7;road a b;road b c;"
            + "person p plain at a beard 0 purse 0;reads (asked=5 and (long<4 or long=9)) or (asked=7 and 3<long);").pass;
        Probe.same("b now", odd.need(0, 1), 0);
        Probe.same("through b with 9", odd.need(0, 2), 9);
        Probe.same("costs 18", odd.debt(0, 2), 18);
    }

    private static void trappedAndShaven() {
        BeardPass pass = Probe.of(RING).pass;
        Probe.same("nobody", pass.trapped(), 0);
        int[] due = {1, 15, 15, 4};
        for (int i = 0; i < 4; i++) {
            Probe.same("shaven " + i, pass.shaven(i), due[i]);
        }
        Probe.same("beard stays", pass.person(0, 2), 9);
        pass.shave(0);
        pass.shave(3);
        // sal's only voice at low is pia's
        Probe.same("three", pass.trapped(), 11);
        BeardPass smooth = Probe.of("town a asks 0;town b asks 9;road a b;person p plain at a beard 1 purse 9;reads long<1;").pass;
        Probe.same("a razor opens", smooth.shaven(0), 3);
        smooth.forge(0, 2);
        Probe.same("forged ones go, too", smooth.shaven(0), 3);
    }

    private static void meeting() {
        BeardPass pass = Probe.of(RING).pass;
        Probe.same("weeks", pass.meeting(0), 0);
        Probe.same("low", pass.meeting(1), 0);
        String land = "town a asks 12;town b asks 6;town c asks 6;road a b;road b c;road a c;"
            + "person p plain at a beard 1 purse 0;person q plain at c beard 3 purse 0;grows 1;";
        BeardPass two = Probe.of(land).pass;
        // p comes to c in 5, q to a in 9, both to b in 5 and 3
        Probe.same("weeks", two.meeting(0), 5);
        Probe.same("b", two.meeting(1), 1);
        BeardPass none = Probe.of(land.replace("grows 1", "grows 0")).pass;
        Probe.same("none", none.meeting(0), -1);
        Probe.same("none", none.meeting(1), -1);
        BeardPass nobody = Probe.of("town a asks 1;").pass;
        Probe.same("nobody waits for nobody", nobody.meeting(0), 0);
        Probe.same("in the first", nobody.meeting(1), 0);
        BeardPass alone = Probe.of("town a asks 0;town b asks 0;road a b;person s smooth at a beard 0 purse 0;"
            + "person p plain at b beard 0 purse 0;").pass;
        Probe.same("nobody speaks for her, he comes to her", alone.meeting(1), 0);
    }

    private static void speakers() {
        BeardPass pass = Probe.of(RING).pass;
        int[] low = {1, 1, 0, 0, 1};
        int[] top = {8, 8, 0, 8, 8};
        for (int town = 0; town < 5; town++) {
            Probe.same("speakers " + town, pass.speakers(1, town), low[town]);
        }
        pass.go(1, 1);
        for (int town = 0; town < 5; town++) {
            Probe.same("bob speaks everywhere", pass.speakers(1, town), 4);
        }
        pass.go(1, 2);
        for (int town = 0; town < 5; town++) {
            Probe.same("guy speaks " + town, pass.speakers(1, town), top[town]);
        }
        Probe.same("plain", pass.speakers(0, 0), -1);
        Probe.same("bishop", pass.speakers(2, 0), -1);
        Probe.same("grey", pass.speakers(3, 0), -1);
        BeardPass sisters = Probe.of("town a asks 0;town b asks 0;road a b;person s smooth at a beard 9 purse 0;"
            + "person t smooth at a beard 9 purse 0;").pass;
        Probe.same("no smooth one speaks", sisters.speakers(0, 1), 0);
        Probe.same("nor goes", sisters.go(0, 1), false);
    }

    private static void stricter() {
        BeardPass pass = Probe.of(RING).pass;
        Probe.same("as it is", pass.stricter(1, 0), 15);
        // mid asks for 10 then: pia not, nor sal by her; guy 7 of 5
        Probe.same("one more", pass.stricter(1, 1), 12);
        Probe.same("far, guy 7 of 7", pass.stricter(3, 0), 14);
        Probe.same("far, guy 7 of 7, cut", pass.stricter(3, 1), 12);
        // 16 is 8 of him; low asks for 5, mid for 11 and so for 5 of him
        Probe.same("far, not guy", pass.stricter(3, 2), 4);
        Probe.same("low, guy 7 of 9", pass.stricter(0, 9), 7);
        Probe.same("the isle", pass.stricter(4, 9), 0);
        Probe.same("asks stays", pass.town(1, 0), 9);
    }

    private static void others() {
        BeardPass pass = Probe.of(RING).pass;
        for (int other : new int[] {-1, 4, Integer.MIN_VALUE, Integer.MAX_VALUE, 32}) {
            Probe.same("reach of none", pass.reach(other), -1);
            Probe.same("round of none", pass.round(other), -1);
            Probe.same("cheapest of none", pass.cheapest(other), -1);
            Probe.same("shaven of none", pass.shaven(other), -1);
            Probe.same("frontiers of none", pass.frontiers(other, 0), -1);
            Probe.same("when of none", pass.when(other, 0), -1);
            Probe.same("need of none", pass.need(other, 0), -1);
            Probe.same("guide of none", pass.guide(other, 1), -1);
            Probe.same("debt of none", pass.debt(other, 0), -1);
            Probe.same("speakers of none", pass.speakers(other, 0), -1);
        }
        for (int other : new int[] {-1, 5, Integer.MIN_VALUE, Integer.MAX_VALUE, 32}) {
            Probe.same("frontiers to none", pass.frontiers(2, other), -1);
            Probe.same("when to none", pass.when(2, other), -1);
            Probe.same("need to none", pass.need(2, other), -1);
            Probe.same("guide to none", pass.guide(2, other), -1);
            Probe.same("debt to none", pass.debt(2, other), -1);
            Probe.same("speakers to none", pass.speakers(1, other), -1);
            Probe.same("stricter of none", pass.stricter(other, 0), -1);
        }
        for (int other : new int[] {-1, 10, Integer.MIN_VALUE, Integer.MAX_VALUE}) {
            Probe.same("stricter by others", pass.stricter(0, other), -1);
            Probe.same("meeting of others", pass.meeting(other), -1);
        }
        Probe.same("meeting of others", pass.meeting(2), -1);
    }
}
