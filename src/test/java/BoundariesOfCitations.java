import java.util.function.Supplier;

/** The boundary sentences of the promises 8 to 11. */
final class BoundariesOfCitations extends BoundaryTests {
    private static final Supplier<BriefBuilder> TWO = () -> Briefs.of(5, 6);
    private static final Supplier<BriefBuilder> FULL_PARAGRAPH = () -> Briefs.citeTimes(Briefs.of(5, 6), 6, 4, 1, 6);
    private static final Supplier<BriefBuilder> FULL_LOST = () -> Briefs.citeTimes(Briefs.of(5, 6), 6, 4, 1, 7);

    BoundariesOfCitations(Check check) {
        super(check);
    }

    // ---- promise 8: cite

    @Sentence(of = "Promise 8", says = "Adds a citation behind those of a paragraph. Undoable.")
    void promise8BehindThoseOfAParagraphUndoable() {
        BriefBuilder x = Briefs.of(5, 6);
        x.cite(0, 1, 6);
        dueText("behind none", Briefs.cited(x, 0), "1.6");
        x.cite(0, 0, 5);
        dueText("behind one", Briefs.cited(x, 0), "1.6 0.5");
        Briefs.citeTimes(x, 3, 0, 0, 1);
        x.cite(0, 1, 2);
        dueText("behind five", Briefs.cited(x, 0), "1.6 0.5 0.1 0.1 0.1 1.2");
        undoable(TWO, "cite in an empty paragraph", b -> b.cite(11, 1, 60));
        undoable(() -> Briefs.citeTimes(Briefs.of(5), 5, 0, 0, 1), "cite of the sixth", b -> b.cite(0, 0, 1));
    }

    @Sentence(of = "Promise 8", says = "`paragraph`: 0 to 11")
    void promise8ParagraphIs0To11() {
        BriefBuilder x = Briefs.of(5);
        due("cite(0)", x.cite(0, 0, 1), 1);
        due("cite(11)", x.cite(11, 0, 2), 1);
        dueText("the first", Briefs.cited(x, 0), "0.1");
        dueText("the second", Briefs.cited(x, 1), "");
        dueText("the last but one", Briefs.cited(x, 10), "");
        dueText("the last", Briefs.cited(x, 11), "0.2");
        dueThrown("cite(-1)", OUT, b -> b.cite(-1, 0, 1), x);
        dueThrown("cite(12)", OUT, b -> b.cite(12, 0, 1), x);
    }

    @Sentence(of = "Promise 8", says = "`place`: the place of the exhibit")
    void promise8Place() {
        BriefBuilder x = Briefs.full();
        x.drop(0);
        x.cite(0, 0, 1);
        x.cite(0, 28, 1);
        dueText("by the first and the last place", Briefs.cited(x, 0), "1.1 29.1");
        dueThrown("by the place behind", OUT, b -> b.cite(0, 29, 1), x);
        dueThrown("by the place -1", OUT, b -> b.cite(0, -1, 1), x);
    }

    @Sentence(of = "Promise 8", says = "`page`: 1 to 60")
    void promise8PageIs1To60() {
        BriefBuilder x = Briefs.of(59);
        x.cite(0, 0, 1);
        x.cite(0, 0, 59);
        x.cite(0, 0, 60);
        dueText("pages, also one that it has not", Briefs.cited(x, 0), "0.1 0.59 0.60!");
        dueThrown("the page 0", ARGUMENT, b -> b.cite(0, 0, 0), x);
        dueThrown("the page 61", ARGUMENT, b -> b.cite(0, 0, 61), x);
    }

    @Sentence(of = "Promise 8", says = "Returns how many citations the paragraph has then.")
    void promise8ReturnsHowManyItHasThen() {
        BriefBuilder x = Briefs.citeTimes(Briefs.of(5), 6, 1, 0, 1);
        for (int n = 1; n <= 6; n++) {
            due("cite", x.cite(0, 0, n), n);
        }
        x.clean(0);
        due("cite behind clean", x.cite(0, 0, 1), 6);
        x.drop(0);
        x.clean(0);
        x.insert(0, 5);
        due("cite behind clean of all", x.cite(0, 0, 1), 1);
    }

    @Sentence(of = "Promise 8", says = "Throws `IndexOutOfBoundsException` if there is no such paragraph or place")
    void promise8ThrowsIfThereIsNoSuchParagraphOrPlace() {
        refusesParagraphs("cite in", (x, n) -> x.cite(n, 0, 1));
        refusesPlaces("cite of", (x, n) -> x.cite(0, n, 1));
    }

    @Sentence(of = "Promise 8", says = "Throws `IllegalArgumentException` if page is out of range")
    void promise8ThrowsIfPageIsOutOfRange() {
        refusedEach(ARGUMENT, TWO, "cite of the page", (x, n) -> x.cite(0, 1, n), 0, 61, -1, LEAST, MOST);
    }

    @Sentence(of = "Promise 8", says = "Throws `IllegalStateException` if the paragraph has 6")
    void promise8ThrowsIfTheParagraphHas6() {
        refused(STATE, FULL_PARAGRAPH, "cite of a seventh", x -> x.cite(4, 0, 1));
        refused(STATE, FULL_LOST, "cite of a seventh behind lost ones", x -> x.cite(4, 0, 1));
        due("cite in the one ahead of it", FULL_PARAGRAPH.get().cite(3, 0, 1), 1);
        due("cite in the one behind it", FULL_PARAGRAPH.get().cite(5, 0, 1), 1);
    }

    @Sentence(of = "Promise 8",
            says = "throws IndexOutOfBoundsException, IllegalArgumentException, IllegalStateException")
    void promise8ThrowsTheFirstNamed() {
        refused(OUT, FULL_PARAGRAPH, "cite(4, 2, 0)", x -> x.cite(4, 2, 0));
        refused(OUT, FULL_PARAGRAPH, "cite(4, -1, 1)", x -> x.cite(4, -1, 1));
        refused(OUT, FULL_PARAGRAPH, "cite(12, 0, 61)", x -> x.cite(12, 0, 61));
        refused(OUT, FULL_PARAGRAPH, "cite(-1, 2, 0)", x -> x.cite(-1, 2, 0));
        refused(OUT, BriefBuilder::new, "cite(0, 0, 0) of none", x -> x.cite(0, 0, 0));
        refused(ARGUMENT, FULL_PARAGRAPH, "cite(4, 1, 61)", x -> x.cite(4, 1, 61));
        refused(ARGUMENT, FULL_PARAGRAPH, "cite(4, 0, 0)", x -> x.cite(4, 0, 0));
    }

    // ---- promise 9: clean

    @Sentence(of = "Promise 9", says = "Takes all citations of a paragraph out that are lost. Undoable.")
    void promise9TakesOutAllThatAreLostUndoable() {
        BriefBuilder x = Briefs.of(5, 6);
        x.cite(0, 0, 6);
        x.cite(0, 0, 5);
        x.cite(0, 1, 60);
        x.cite(0, 1, 7);
        x.cite(0, 1, 6);
        x.cite(0, 0, 60);
        x.clean(0);
        dueText("what is left, in its order", Briefs.cited(x, 0), "0.5 1.6");
        x.drop(0);
        x.clean(0);
        dueText("what is left when one is gone", Briefs.cited(x, 0), "1.6");
        undoable(FULL_LOST, "clean of a full one", b -> b.clean(4));
        undoable(FULL_LOST, "clean of an empty one", b -> b.clean(0));
        undoable(FULL_PARAGRAPH, "clean of one without lost ones", b -> b.clean(4));
    }

    @Sentence(of = "Promise 9", says = "`paragraph`: 0 to 11")
    void promise9ParagraphIs0To11() {
        BriefBuilder x = Briefs.of(5);
        for (int paragraph = 0; paragraph < 12; paragraph++) {
            x.cite(paragraph, 0, 6);
        }
        due("clean(0)", x.clean(0), 1);
        due("clean(11)", x.clean(11), 1);
        due("lost ones that are left", x.count(4), 10);
        dueText("the second", Briefs.cited(x, 1), "0.6!");
        dueText("the last but one", Briefs.cited(x, 10), "0.6!");
        dueThrown("clean(-1)", OUT, b -> b.clean(-1), x);
        dueThrown("clean(12)", OUT, b -> b.clean(12), x);
    }

    @Sentence(of = "Promise 9", says = "Returns how many.")
    void promise9ReturnsHowMany() {
        due("clean of an empty one", new BriefBuilder().clean(0), 0);
        due("clean of a full one without lost ones", FULL_PARAGRAPH.get().clean(4), 0);
        BriefBuilder x = FULL_LOST.get();
        due("clean of a full one that is all lost", x.clean(4), 6);
        due("citations that are left", x.paragraph(4, 0), 0);
        due("clean again", x.clean(4), 0);
        BriefBuilder y = Briefs.citeTimes(Briefs.of(5), 5, 0, 0, 6);
        y.cite(0, 0, 5);
        due("clean of five of six", y.clean(0), 5);
    }

    @Sentence(of = "Promise 9", says = "Throws `IndexOutOfBoundsException` if there is no such paragraph")
    void promise9ThrowsIfThereIsNoSuchParagraph() {
        refusesParagraphs("clean", BriefBuilder::clean);
    }

    // ---- promise 10: print

    @Sentence(of = "Promise 10", says = "Prints a paragraph. Undoable.")
    void promise10Undoable() {
        undoable(BriefBuilder::new, "print of an empty one", x -> x.print(0));
        undoable(FULL_PARAGRAPH, "print of a full one", x -> x.print(4));
        undoable(FULL_LOST, "print of lost ones", x -> x.print(4));
        undoable(() -> Briefs.printAll(FULL_LOST.get()), "print of what is not stale", x -> x.print(4));
        Supplier<BriefBuilder> moved = () -> {
            BriefBuilder x = Briefs.printAll(FULL_PARAGRAPH.get());
            x.move(0, 1);
            return x;
        };
        undoable(moved, "print of other letters", x -> x.print(4));
        BriefBuilder y = moved.get();
        y.print(4);
        y.undo();
        due("stale when the print is undone", y.paragraph(4, 2), 1);
        y.move(0, 1);
        due("stale with the letters that were printed first", y.paragraph(4, 2), 0);
    }

    @Sentence(of = "Promise 10", says = "`paragraph`: 0 to 11")
    void promise10ParagraphIs0To11() {
        BriefBuilder x = new BriefBuilder();
        due("print(0)", x.print(0), 1);
        due("print(11)", x.print(11), 1);
        due("stale ones", x.count(5), 10);
        due("the first", x.paragraph(0, 2), 0);
        due("the second", x.paragraph(1, 2), 1);
        due("the last but one", x.paragraph(10, 2), 1);
        due("the last", x.paragraph(11, 2), 0);
        dueThrown("print(-1)", OUT, b -> b.print(-1), x);
        dueThrown("print(12)", OUT, b -> b.print(12), x);
    }

    @Sentence(of = "Promise 10", says = "Returns 1 if it was stale, otherwise 0.")
    void promise10Returns1IfItWasStale() {
        BriefBuilder x = Briefs.of(5);
        due("an empty one that was never printed", x.print(4), 1);
        due("an empty one again", x.print(4), 0);
        Briefs.citeTimes(x, 6, 4, 0, 5);
        due("a full one", x.print(4), 1);
        due("a full one again", x.print(4), 0);
        x.pages(0, 4);
        due("a full one that is lost", x.print(4), 1);
        due("a full one that is lost, again", x.print(4), 0);
        x.drop(0);
        due("a full one whose exhibit is gone", x.print(4), 1);
        due("a full one whose exhibit is gone, again", x.print(4), 0);
        x.clean(4);
        due("an empty one that was full", x.print(4), 1);
    }

    @Sentence(of = "Promise 10", says = "Throws `IndexOutOfBoundsException` if there is no such paragraph")
    void promise10ThrowsIfThereIsNoSuchParagraph() {
        refusesParagraphs("print", BriefBuilder::print);
    }

    // ---- promise 11: set

    @Sentence(of = "Promise 11", says = "Changes setting 0. Undoable.")
    void promise11Undoable() {
        undoable(BriefBuilder::new, "set(200)", x -> x.set(200));
        undoable(BriefBuilder::new, "set(10)", x -> x.set(10));
        undoable(TWO, "set to what it is", x -> x.set(x.count(7)));
    }

    @Sentence(of = "Promise 11", says = "`pages`: 10 to 200")
    void promise11PagesAre10To200() {
        BriefBuilder x = Briefs.of(1, 9, 1, 60, 60, 60, 9, 60);
        x.set(10);
        dueText("binders of 10", Briefs.numbers(x, 2), "0 0 1 2 3 4 5 6");
        x.set(200);
        dueText("binders of 200", Briefs.numbers(x, 2), "0 0 0 0 0 0 0 1");
        due("the setting", x.count(7), 200);
        dueThrown("set(9)", ARGUMENT, b -> b.set(9), x);
        dueThrown("set(201)", ARGUMENT, b -> b.set(201), x);
    }

    @Sentence(of = "Promise 11", says = "Returns the previous value.")
    void promise11ReturnsThePreviousValue() {
        BriefBuilder x = new BriefBuilder();
        due("set for the first time", x.set(10), 60);
        due("set behind 10", x.set(200), 10);
        due("set behind 200", x.set(200), 200);
        due("set again", x.set(60), 200);
    }

    @Sentence(of = "Promise 11", says = "Throws `IllegalArgumentException` if pages is out of range")
    void promise11ThrowsIfPagesIsOutOfRange() {
        refusedEach(ARGUMENT, TWO, "set", BriefBuilder::set, 9, 201, 0, -1, LEAST, MOST);
    }
}
