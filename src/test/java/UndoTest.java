import java.util.List;
import java.util.function.Supplier;
import java.util.function.ToLongFunction;

/** Undo after each undoable method, also after one that changed nothing; six saved states; what is not saved. */
public final class UndoTest {
    private static final Check CHECK = new Check("UndoTest");

    public static void main(String[] args) {
        eachMethod();
        methodsThatChangeNothing();
        methodsThatAreNotUndoable();
        refusedCalls();
        sevenStates();
        thirteenStates();
        bufferStays();
        printsComeBack();
        CHECK.close();
    }

    /** Three exhibits, the paragraph 0 printed and then stale, one lost citation. */
    private static BriefBuilder brief() {
        BriefBuilder x = new BriefBuilder();
        x.insert(0, 20);
        x.insert(1, 10);
        x.insert(2, 30);
        x.cite(0, 0, 15);
        x.cite(0, 1, 5);
        x.print(0);
        x.cite(0, 1, 11);
        return x;
    }

    /** The call saves the state from before it, and undo brings that back. */
    private static void undone(Supplier<BriefBuilder> setup, String what, boolean changes,
            ToLongFunction<BriefBuilder> call) {
        List<Long> before = Briefs.seen(setup.get());
        BriefBuilder x = setup.get();
        int saved = Math.min(x.count(8) + 1, 6);
        call.applyAsLong(x);
        CHECK.due(what + " saves a state", x.count(8), saved);
        CHECK.due(what + " changes something", Briefs.seen(x).equals(before) ? 0 : 1, changes ? 1 : 0);
        CHECK.due("undo of " + what, x.undo(), saved - 1);
        CHECK.due("all is back after " + what, Briefs.seen(x).equals(before) ? 1 : 0, 1);
    }

    private static void eachMethod() {
        Supplier<BriefBuilder> brief = UndoTest::brief;
        undone(brief, "insert", true, x -> x.insert(1, 7));
        undone(brief, "move", true, x -> x.move(0, 2));
        undone(brief, "drop", true, x -> x.drop(0));
        undone(brief, "pages", true, x -> x.pages(0, 3));
        undone(brief, "join", true, x -> x.join(0));
        undone(brief, "split", true, x -> x.split(0, 4));
        undone(brief, "cite", true, x -> x.cite(4, 0, 1));
        undone(brief, "clean", true, x -> x.clean(0));
        undone(brief, "print", true, x -> x.print(0));
        undone(brief, "set", true, x -> x.set(10));
        undone(brief, "citeAll", true, x -> Briefs.type(x, "C.3,A.1").citeAll(0));
    }

    private static void methodsThatChangeNothing() {
        Supplier<BriefBuilder> brief = () -> {
            BriefBuilder x = Briefs.of(5);
            x.print(3);
            return x;
        };
        undone(brief, "move to where it is", false, x -> x.move(0, 0));
        undone(brief, "the same pages", false, x -> x.pages(0, 5));
        undone(brief, "clean of nothing", false, x -> x.clean(0));
        undone(brief, "print of what is not stale", false, x -> x.print(3));
        undone(brief, "the same setting", false, x -> x.set(60));
    }

    private static void methodsThatAreNotUndoable() {
        BriefBuilder x = brief();
        int saved = x.count(8);
        List<Long> before = Briefs.seen(x);
        Briefs.askAll(x);
        CHECK.due("looks save nothing", x.count(8), saved);
        CHECK.due("looks change nothing", Briefs.seen(x).equals(before) ? 1 : 0, 1);
    }

    private static void refusedCalls() {
        BriefBuilder x = new BriefBuilder();
        x.insert(0, 5);
        Check.outcome(() -> x.insert(9, 5));
        Check.outcome(() -> x.move(0, 9));
        Check.outcome(() -> x.drop(9));
        Check.outcome(() -> x.pages(0, 61));
        Check.outcome(() -> x.join(0));
        Check.outcome(() -> x.split(0, 5));
        Check.outcome(() -> x.cite(0, 0, 61));
        Check.outcome(() -> x.clean(12));
        Check.outcome(() -> x.print(12));
        Check.outcome(() -> x.set(9));
        Check.outcome(() -> x.citeAll(0));
        CHECK.due("refused calls save nothing", x.count(8), 1);
        CHECK.due("undo goes behind them", x.undo(), 0);
        CHECK.due("undo goes behind them", x.count(0), 0);
    }

    private static void sevenStates() {
        BriefBuilder x = new BriefBuilder();
        for (int n = 1; n <= 7; n++) {
            x.insert(0, n);
            CHECK.due("saved states after " + n, x.count(8), Math.min(n, 6));
        }
        for (int left = 5; left >= 0; left--) {
            CHECK.due("undo", x.undo(), left);
            CHECK.due("exhibits after undo", x.count(0), left + 1);
        }
        CHECK.dueText("the oldest was dropped", Check.outcome(x::undo), IllegalStateException.class.getName());
        CHECK.due("exhibits at last", x.count(0), 1);
    }

    private static void thirteenStates() {
        BriefBuilder x = new BriefBuilder();
        for (int n = 1; n <= 13; n++) {
            x.insert(0, n);
        }
        x.undo();
        x.undo();
        for (int n = 0; n < 3; n++) {
            x.insert(0, 50 + n);
        }
        CHECK.due("saved states", x.count(8), 6);
        int[] exhibits = {13, 12, 11, 10, 9, 8};
        for (int want : exhibits) {
            x.undo();
            CHECK.due("exhibits", x.count(0), want);
            CHECK.due("the first of them", x.exhibit(0, 1), want > 11 ? 50 + want - 12 : want);
        }
        CHECK.due("no more", x.count(8), 0);
    }

    private static void bufferStays() {
        BriefBuilder x = new BriefBuilder();
        x.insert(0, 5);
        x.append('A');
        x.undo();
        CHECK.due("undo leaves the buffer", x.append('.'), 2);
        x.insert(0, 5);
        x.append('5');
        x.citeAll(0);
        x.append('Z');
        x.undo();
        CHECK.due("undo of citeAll leaves the buffer", x.clearBuffer(), 1);
        CHECK.due("undo of citeAll takes the citations back", x.paragraph(0, 0), 0);
    }

    private static void printsComeBack() {
        BriefBuilder x = new BriefBuilder();
        x.insert(0, 5);
        x.insert(1, 5);
        x.cite(0, 0, 1);
        x.print(0);
        x.move(0, 1);
        x.print(0);
        CHECK.due("not stale", x.paragraph(0, 2), 0);
        x.undo();
        CHECK.due("stale as before the print", x.paragraph(0, 2), 1);
        x.undo();
        CHECK.due("not stale as before the move", x.paragraph(0, 2), 0);
        x.undo();
        CHECK.due("never printed", x.paragraph(0, 3), -1);
        CHECK.due("stale as never printed", x.paragraph(0, 2), 1);
    }
}
