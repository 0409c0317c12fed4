import java.util.List;
import java.util.function.Supplier;

/** What the tests of boundary sentences share. No brief is asked more than 512 calls: more are not promised. */
abstract class BoundaryTests {
    static final Class<?> OUT = IndexOutOfBoundsException.class;
    static final Class<?> ARGUMENT = IllegalArgumentException.class;
    static final Class<?> STATE = IllegalStateException.class;
    static final int LEAST = Integer.MIN_VALUE;
    static final int MOST = Integer.MAX_VALUE;

    interface Call {
        long on(BriefBuilder x);
    }

    interface NumberedCall {
        long on(BriefBuilder x, int number);
    }

    private final Check check;

    BoundaryTests(Check check) {
        this.check = check;
    }

    final void due(String what, long got, long want) {
        check.due(what, got, want);
    }

    final void dueText(String what, String got, String want) {
        check.dueText(what, got, want);
    }

    final void dueShare(String what, double got, double want) {
        check.dueShare(what, got, want);
    }

    final void dueSeen(String what, List<Long> got, List<Long> want) {
        check.dueText(what, got.toString(), want.toString());
    }

    /** The digest is that of the document's list. */
    final void dueDigest(String what, Supplier<BriefBuilder> setup, String buffer) {
        due("digest of " + what, setup.get().digest(), Briefs.listed(setup, buffer));
    }

    final void dueThrown(String what, Class<?> exception, Call call, BriefBuilder x) {
        check.dueText(what, Check.outcome(() -> call.on(x)), exception.getName());
    }

    /** The call throws just this and changes nothing, also when a state that it saved would drop the oldest one. */
    final void refused(Class<?> exception, Supplier<BriefBuilder> setup, String what, Call call) {
        refusedAsIs(exception, setup, what, call);
        refusedAsIs(exception, () -> Briefs.crammed(setup.get()), what + " with six saved states", call);
    }

    final void refusedAsIs(Class<?> exception, Supplier<BriefBuilder> setup, String what, Call call) {
        dueThrown(what, exception, call, setup.get());
        dueSeen("what is told after " + what, Briefs.told(() -> after(setup, call)), Briefs.told(setup));
    }

    private static BriefBuilder after(Supplier<BriefBuilder> setup, Call call) {
        BriefBuilder x = setup.get();
        Check.outcome(() -> call.on(x));
        return x;
    }

    final void refusedEach(Class<?> exception, Supplier<BriefBuilder> setup, String name, NumberedCall call,
            int... numbers) {
        for (int number : numbers) {
            refused(exception, setup, name + " of " + number, x -> call.on(x, number));
        }
    }

    /** Places just ahead of the first one and just behind the last one, of no, two and thirty exhibits. */
    final void refusesPlaces(String name, NumberedCall call) {
        refusedEach(OUT, BriefBuilder::new, name + " without exhibits", call, -1, 0);
        refusedEach(OUT, () -> Briefs.of(5, 6), name + " with two", call, -1, 2, LEAST, MOST);
        refusedEach(OUT, Briefs::full, name + " with thirty", call, -1, 30);
    }

    final void refusesParagraphs(String name, NumberedCall call) {
        refusedEach(OUT, () -> Briefs.type(Briefs.of(5, 6), "A.1"), name, call, -1, 12, LEAST, MOST);
    }

    /** The call saves the state from before it, and as the seventh one it drops the oldest. */
    final void undoable(Supplier<BriefBuilder> setup, String what, Call call) {
        List<Long> before = Briefs.seen(setup.get());
        BriefBuilder x = setup.get();
        int saved = Math.min(x.count(8) + 1, 6);
        call.on(x);
        due("saved states after " + what, x.count(8), saved);
        due("undo of " + what, x.undo(), saved - 1);
        dueSeen("what is seen after undo of " + what, Briefs.seen(x), before);
        due("the next number after undo of " + what, Briefs.nextNumber(x), Briefs.nextNumber(setup.get()));
        BriefBuilder y = setup.get();
        for (int pages = 10; pages <= 15; pages++) {
            y.set(pages);
        }
        call.on(y);
        due("saved states after " + what + " as the seventh", y.count(8), 6);
        for (int pages = 15; pages >= 10; pages--) {
            due("undo behind " + what, y.undo(), pages - 10);
            due("the setting that is back behind " + what, y.count(7), pages);
        }
        dueThrown("undo to the oldest behind " + what, STATE, BriefBuilder::undo, y);
    }

    /** The call saves nothing and changes nothing that undo brings back. */
    final void notUndoable(Supplier<BriefBuilder> setup, String what, Call call) {
        List<Long> before = Briefs.seen(setup.get());
        BriefBuilder x = setup.get();
        int saved = x.count(8);
        call.on(x);
        due("saved states after " + what, x.count(8), saved);
        dueSeen("what is seen after " + what, Briefs.seen(x), before);
        BriefBuilder y = Briefs.crammed(setup.get());
        call.on(y);
        due("saved states after " + what + " when they are full", y.count(8), 6);
        due("the next number after " + what, Briefs.nextNumber(y), Briefs.nextNumber(setup.get()));
    }

    /** The call changes nothing: neither what is seen, nor the buffer, nor a saved state. */
    final void looksOnly(Supplier<BriefBuilder> setup, String what, Call call) {
        dueSeen("what is told after " + what, Briefs.told(() -> after(setup, call)), Briefs.told(setup));
    }
}
