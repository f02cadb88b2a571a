import java.util.function.Consumer;
import java.util.function.ToIntFunction;

/**
 * Two objects that are told and done the same. A call that is refused, or that only asks, is made on one of them alone:
 * both must answer alike after it, and when all is undone and the marks are gone back to.
 */
final class Twin {
    private static final int[] NO_MORE = {};

    final Probe one = new Probe();
    private final Probe other = new Probe();

    static Twin of(String land) {
        Twin twin = new Twin();
        twin.both(probe -> Probe.same("land " + land, probe.land(land), 0));
        return twin;
    }

    Twin both(Consumer<Probe> deed) {
        deed.accept(one);
        deed.accept(other);
        return this;
    }

    /** The call is made on one alone, answers as due, and leaves all as it was. */
    void stays(String what, ToIntFunction<BeardPass> call, int due) {
        Probe.same(what, call.applyAsInt(one.pass), due);
        alike(what);
    }

    /** A text is fed to one alone and read by it: it must be refused with this fault. */
    void refuses(String what, String text, ToIntFunction<BeardPass> reader, int due) {
        one.feed(text);
        stays(what, reader, due);
    }

    private void alike(String what) {
        compare(what, whole(one.pass), whole(other.pass));
        int undone = 0;
        while (undone < 4 && other.pass.undo()) {
            undone++;
            Probe.same(what + ": undo " + undone, one.pass.undo(), true);
            compare(what + ": undone " + undone, standing(one.pass), standing(other.pass));
        }
        Probe.same(what + ": nothing more is undone", one.pass.undo(), undone == 4 && other.pass.undo());
        for (int mark = 0; mark < 4; mark++) {
            boolean laid = other.pass.mark(mark, true);
            Probe.same(what + ": mark " + mark, one.pass.mark(mark, true), laid);
            compare(what + ": back at mark " + mark, laid ? marked(one.pass) : NO_MORE, laid ? marked(other.pass) : NO_MORE);
        }
    }

    private static void compare(String what, int[] got, int[] due) {
        for (int i = 0; i < due.length; i++) {
            Probe.same(what + ", answer " + i, got[i], due[i]);
        }
    }

    /** Where all are and what they have. */
    private static int[] standing(BeardPass pass) {
        int persons = pass.count(1);
        int[] answers = new int[12 + 5 * persons];
        for (int what = 0; what < 12; what++) {
            answers[what] = pass.count(what);
        }
        for (int i = 0; i < 5 * persons; i++) {
            answers[12 + i] = pass.person(i / 5, 1 + i % 5);
        }
        return answers;
    }

    private static int[] marked(BeardPass pass) {
        int[] rest = {pass.judged(0), pass.judged(1), pass.judged(2), pass.lengths(0), pass.lengths(1), pass.lengths(2)};
        return joined(standing(pass), rest);
    }

    private static int[] whole(BeardPass pass) {
        int towns = pass.count(0);
        int[] guards = new int[3 * towns];
        for (int i = 0; i < guards.length; i++) {
            guards[i] = pass.town(i / 3, i % 3);
        }
        int[] rest = {pass.ask(), pass.strict(), pass.alike(), pass.trapped(), pass.years(7, 3, 2), pass.meeting(0)};
        return joined(joined(marked(pass), guards), rest);
    }

    private static int[] joined(int[] one, int[] other) {
        int[] all = new int[one.length + other.length];
        System.arraycopy(one, 0, all, 0, one.length);
        System.arraycopy(other, 0, all, one.length, other.length);
        return all;
    }
}
