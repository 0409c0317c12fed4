import java.util.function.Supplier;

/** The boundary sentences of the promises 1 to 7. */
final class BoundariesOfExhibits extends BoundaryTests {
    private static final Supplier<BriefBuilder> TWO = () -> Briefs.of(5, 6);

    BoundariesOfExhibits(Check check) {
        super(check);
    }

    // ---- promise 1: a new object

    @Sentence(of = "Promise 1", says = "Creates a brief without exhibits and citations")
    void promise1WithoutExhibitsAndCitations() {
        BriefBuilder x = new BriefBuilder();
        int[] counts = {0, 0, 0, 0, 0, 12, 0, 60, 0};
        for (int what = 0; what < counts.length; what++) {
            due("count(" + what + ")", x.count(what), counts[what]);
        }
        due("exhibit(0, 0)", x.exhibit(0, 0), -1);
        for (int paragraph = 0; paragraph < 12; paragraph++) {
            due("citations of a paragraph", x.paragraph(paragraph, 0), 0);
            due("citations that were printed", x.paragraph(paragraph, 3), -1);
            due("citation(" + paragraph + ", 0, 0)", x.citation(paragraph, 0, 0), -1);
        }
        due("the first number", x.insert(0, 1), 0);
    }

    @Sentence(of = "Promise 1", says = "with an empty buffer.")
    void promise1WithAnEmptyBuffer() {
        BriefBuilder x = new BriefBuilder();
        due("firstError()", x.firstError(), 0);
        due("clearBuffer()", x.clearBuffer(), 0);
        due("append('A')", x.append('A'), 1);
        BriefBuilder other = new BriefBuilder();
        due("clearBuffer() of another one", other.clearBuffer(), 0);
    }

    // ---- promise 2: insert

    @Sentence(of = "Promise 2", says = "Inserts an exhibit. Undoable.")
    void promise2Undoable() {
        undoable(BriefBuilder::new, "insert into none", x -> x.insert(0, 1));
        undoable(TWO, "insert", x -> x.insert(1, 60));
        undoable(() -> Briefs.many(29, 1), "insert of the thirtieth", x -> x.insert(29, 1));
    }

    @Sentence(of = "Promise 2", says = "`place`: 0 to as many as there are")
    void promise2PlaceIs0ToAsManyAsThereAre() {
        BriefBuilder x = new BriefBuilder();
        dueThrown("insert(1) into none", OUT, b -> b.insert(1, 5), x);
        due("insert(0) into none", x.insert(0, 5), 0);
        dueThrown("insert(2) into one", OUT, b -> b.insert(2, 5), x);
        due("insert(1) into one", x.insert(1, 5), 1);
        due("insert(0) into two", x.insert(0, 5), 2);
        dueText("the order", Briefs.numbers(x, 0), "2 0 1");
        BriefBuilder y = Briefs.many(29, 1);
        dueThrown("insert(30) into 29", OUT, b -> b.insert(30, 5), y);
        due("insert(29) into 29", y.insert(29, 5), 29);
    }

    @Sentence(of = "Promise 2", says = "`pages`: 1 to 60")
    void promise2PagesAre1To60() {
        BriefBuilder x = new BriefBuilder();
        x.insert(0, 1);
        x.insert(1, 60);
        dueText("pages", Briefs.numbers(x, 1), "1 60");
        dueThrown("insert of 0 pages", ARGUMENT, b -> b.insert(0, 0), x);
        dueThrown("insert of 61 pages", ARGUMENT, b -> b.insert(0, 61), x);
    }

    @Sentence(of = "Promise 2", says = "Returns its number.")
    void promise2ReturnsItsNumber() {
        BriefBuilder x = new BriefBuilder();
        for (int n = 0; n < 30; n++) {
            due("insert", x.insert(n / 2, 1), n);
        }
        x.drop(7);
        due("insert behind drop", x.insert(7, 1), 30);
        due("the number at its place", x.exhibit(7, 0), 30);
    }

    @Sentence(of = "Promise 2", says = "Throws `IndexOutOfBoundsException` if place is out of range")
    void promise2ThrowsIfPlaceIsOutOfRange() {
        refusedEach(OUT, BriefBuilder::new, "insert into none", (x, n) -> x.insert(n, 5), -1, 1, LEAST, MOST);
        refusedEach(OUT, TWO, "insert into two", (x, n) -> x.insert(n, 5), -1, 3, LEAST, MOST);
        refusedEach(OUT, () -> Briefs.many(29, 1), "insert into 29", (x, n) -> x.insert(n, 5), -1, 30);
    }

    @Sentence(of = "Promise 2", says = "Throws `IllegalArgumentException` if pages is out of range")
    void promise2ThrowsIfPagesIsOutOfRange() {
        refusedEach(ARGUMENT, BriefBuilder::new, "insert of pages", (x, n) -> x.insert(0, n), 0, 61, -1, LEAST, MOST);
        refusedEach(ARGUMENT, TWO, "insert of pages behind two", (x, n) -> x.insert(2, n), 0, 61);
    }

    @Sentence(of = "Promise 2", says = "Throws `IllegalStateException` if there are 30 exhibits")
    void promise2ThrowsIfThereAre30() {
        refusedEach(STATE, Briefs::full, "insert into thirty", (x, n) -> x.insert(n, 1), 0, 29, 30);
        due("insert into 29", Briefs.many(29, 1).insert(0, 1), 29);
    }

    @Sentence(of = "Promise 2",
            says = "throws IndexOutOfBoundsException, IllegalArgumentException, IllegalStateException")
    void promise2ThrowsTheFirstNamed() {
        refused(OUT, Briefs::full, "insert(31, 61) into thirty", x -> x.insert(31, 61));
        refused(OUT, Briefs::full, "insert(-1, 1) into thirty", x -> x.insert(-1, 1));
        refused(OUT, TWO, "insert(3, 0) into two", x -> x.insert(3, 0));
        refused(ARGUMENT, Briefs::full, "insert(30, 61) into thirty", x -> x.insert(30, 61));
        refused(ARGUMENT, Briefs::full, "insert(0, 0) into thirty", x -> x.insert(0, 0));
    }

    // ---- promise 3: move

    @Sentence(of = "Promise 3", says = "Moves an exhibit. Undoable.")
    void promise3Undoable() {
        undoable(TWO, "move", x -> x.move(0, 1));
        undoable(TWO, "move to where it is", x -> x.move(1, 1));
        undoable(Briefs::full, "move in thirty", x -> x.move(29, 0));
    }

    @Sentence(of = "Promise 3", says = "`place`: its place")
    void promise3Place() {
        BriefBuilder x = Briefs.full();
        due("move(0, 1)", x.move(0, 1), 0);
        due("move(29, 28)", x.move(29, 28), 29);
        due("the first", x.exhibit(0, 0), 1);
        due("the last", x.exhibit(29, 0), 28);
        BriefBuilder one = Briefs.of(5);
        due("move of the only one", one.move(0, 0), 0);
    }

    @Sentence(of = "Promise 3", says = "`to`: the place to which it is put")
    void promise3To() {
        BriefBuilder x = Briefs.full();
        due("move(5, 29)", x.move(5, 29), 5);
        due("the last", x.exhibit(29, 0), 5);
        due("the one that took its place", x.exhibit(5, 0), 6);
        due("move(29, 0)", x.move(29, 0), 5);
        due("the first", x.exhibit(0, 0), 5);
        due("the last", x.exhibit(29, 0), 29);
    }

    @Sentence(of = "Promise 3", says = "Returns its number.")
    void promise3ReturnsItsNumber() {
        BriefBuilder x = Briefs.of(5, 6, 7);
        x.drop(0);
        due("move(0, 1)", x.move(0, 1), 1);
        due("move(0, 1) again", x.move(0, 1), 2);
        due("move(1, 1)", x.move(1, 1), 2);
    }

    @Sentence(of = "Promise 3", says = "Throws `IndexOutOfBoundsException` if there is no such place")
    void promise3ThrowsIfThereIsNoSuchPlace() {
        refusesPlaces("move of", (x, n) -> x.move(n, 0));
        refusesPlaces("move to", (x, n) -> x.move(0, n));
        refusesPlaces("move of and to", (x, n) -> x.move(n, n));
    }

    // ---- promise 4: drop

    @Sentence(of = "Promise 4", says = "Drops an exhibit. Undoable.")
    void promise4Undoable() {
        Supplier<BriefBuilder> cited = () -> {
            BriefBuilder x = Briefs.of(5, 6);
            x.cite(11, 1, 6);
            return x;
        };
        undoable(TWO, "drop", x -> x.drop(0));
        undoable(cited, "drop of a cited one", x -> x.drop(1));
        undoable(() -> Briefs.of(5), "drop of the only one", x -> x.drop(0));
        undoable(Briefs::full, "drop of the last of thirty", x -> x.drop(29));
    }

    @Sentence(of = "Promise 4", says = "`place`: its place")
    void promise4Place() {
        BriefBuilder x = Briefs.full();
        x.drop(29);
        due("the last", x.exhibit(28, 0), 28);
        due("behind the last", x.exhibit(29, 0), -1);
        x.drop(0);
        due("the first", x.exhibit(0, 0), 1);
        due("the last", x.exhibit(27, 0), 28);
        due("exhibits", x.count(0), 28);
        for (int left = 27; left >= 0; left--) {
            x.drop(left / 2);
            due("exhibits", x.count(0), left);
        }
    }

    @Sentence(of = "Promise 4", says = "Returns how many citations are lost by it that were not.")
    void promise4ReturnsHowManyAreLost() {
        BriefBuilder x = Briefs.of(5, 6);
        due("drop of one that nothing cites", x.drop(1), 0);
        x.cite(0, 0, 5);
        x.cite(0, 0, 6);
        x.cite(11, 0, 1);
        due("drop with one that is lost already", x.drop(0), 2);
        BriefBuilder all = Briefs.of(60);
        BriefBuilder lost = Briefs.of(59);
        for (int paragraph = 0; paragraph < 12; paragraph++) {
            Briefs.citeTimes(all, 6, paragraph, 0, 60);
            Briefs.citeTimes(lost, 6, paragraph, 0, 60);
        }
        due("drop when all citations are of it", all.drop(0), 72);
        due("drop when all are lost already", lost.drop(0), 0);
    }

    @Sentence(of = "Promise 4", says = "Throws `IndexOutOfBoundsException` if there is no such place")
    void promise4ThrowsIfThereIsNoSuchPlace() {
        refusesPlaces("drop", BriefBuilder::drop);
    }

    // ---- promise 5: pages

    @Sentence(of = "Promise 5", says = "Changes the pages of an exhibit. Undoable.")
    void promise5Undoable() {
        undoable(TWO, "pages", x -> x.pages(1, 60));
        undoable(TWO, "pages as they are", x -> x.pages(1, 6));
    }

    @Sentence(of = "Promise 5", says = "`place`: its place")
    void promise5Place() {
        BriefBuilder x = Briefs.full();
        x.pages(0, 4);
        x.pages(29, 5);
        due("pages of the first", x.exhibit(0, 1), 4);
        due("pages of the second", x.exhibit(1, 1), 3);
        due("pages of the last but one", x.exhibit(28, 1), 3);
        due("pages of the last", x.exhibit(29, 1), 5);
    }

    @Sentence(of = "Promise 5", says = "`pages`: 1 to 60")
    void promise5PagesAre1To60() {
        BriefBuilder x = Briefs.of(5);
        x.pages(0, 60);
        due("pages", x.exhibit(0, 1), 60);
        x.pages(0, 1);
        due("pages", x.exhibit(0, 1), 1);
        dueThrown("pages(0, 0)", ARGUMENT, b -> b.pages(0, 0), x);
        dueThrown("pages(0, 61)", ARGUMENT, b -> b.pages(0, 61), x);
    }

    @Sentence(of = "Promise 5", says = "Returns the previous number.")
    void promise5ReturnsThePreviousNumber() {
        BriefBuilder x = Briefs.of(1, 60);
        due("pages of the first", x.pages(0, 60), 1);
        due("pages of the second", x.pages(1, 1), 60);
        due("pages of the first again", x.pages(0, 60), 60);
    }

    @Sentence(of = "Promise 5", says = "Throws `IndexOutOfBoundsException` if there is no such place")
    void promise5ThrowsIfThereIsNoSuchPlace() {
        refusesPlaces("pages", (x, n) -> x.pages(n, 5));
    }

    @Sentence(of = "Promise 5", says = "Throws `IllegalArgumentException` if pages is out of range")
    void promise5ThrowsIfPagesIsOutOfRange() {
        refusedEach(ARGUMENT, TWO, "pages", (x, n) -> x.pages(1, n), 0, 61, -1, LEAST, MOST);
        refusedEach(ARGUMENT, Briefs::full, "pages of the last", (x, n) -> x.pages(29, n), 0, 61);
    }

    @Sentence(of = "Promise 5", says = "throws IndexOutOfBoundsException, IllegalArgumentException")
    void promise5ThrowsTheFirstNamed() {
        refused(OUT, TWO, "pages(2, 0)", x -> x.pages(2, 0));
        refused(OUT, TWO, "pages(-1, 61)", x -> x.pages(-1, 61));
        refused(OUT, BriefBuilder::new, "pages(0, 0) of none", x -> x.pages(0, 0));
    }

    // ---- promise 6: join

    @Sentence(of = "Promise 6", says = "Joins an exhibit with the next one. Undoable.")
    void promise6Undoable() {
        Supplier<BriefBuilder> cited = () -> {
            BriefBuilder x = Briefs.of(20, 40);
            x.cite(0, 1, 40);
            x.cite(0, 1, 41);
            return x;
        };
        undoable(TWO, "join", x -> x.join(0));
        undoable(cited, "join with citations", x -> x.join(0));
        undoable(Briefs::full, "join of the last two of thirty", x -> x.join(28));
    }

    @Sentence(of = "Promise 6", says = "`place`: its place")
    void promise6Place() {
        BriefBuilder x = Briefs.full();
        due("join(28) of thirty", x.join(28), 6);
        due("the last", x.exhibit(28, 0), 28);
        due("behind the last", x.exhibit(29, 0), -1);
        due("join(0) of 29", x.join(0), 6);
        due("the second", x.exhibit(1, 0), 2);
        due("exhibits", x.count(0), 28);
        dueThrown("join of the last", OUT, b -> b.join(27), x);
    }

    @Sentence(of = "Promise 6", says = "Returns its pages then.")
    void promise6ReturnsItsPagesThen() {
        due("join of 1 and 1", Briefs.of(1, 1).join(0), 2);
        due("join of 59 and 1", Briefs.of(59, 1).join(0), 60);
        due("join of 1 and 59", Briefs.of(1, 59).join(0), 60);
        due("join of 30 and 30", Briefs.of(5, 30, 30).join(1), 60);
    }

    @Sentence(of = "Promise 6",
            says = "Throws `IndexOutOfBoundsException` if there is no such place, or none behind it")
    void promise6ThrowsIfThereIsNoSuchPlaceOrNoneBehind() {
        refusesPlaces("join", BriefBuilder::join);
        refused(OUT, () -> Briefs.of(5), "join of the only one", x -> x.join(0));
        refused(OUT, () -> Briefs.of(1, 60), "join of the last of two", x -> x.join(1));
        refused(OUT, Briefs::full, "join of the last of thirty", x -> x.join(29));
    }

    @Sentence(of = "Promise 6", says = "Throws `IllegalStateException` if it would have more than 60 pages")
    void promise6ThrowsIfItWouldHaveMoreThan60Pages() {
        refused(STATE, () -> Briefs.of(60, 1), "join of 60 and 1", x -> x.join(0));
        refused(STATE, () -> Briefs.of(1, 60), "join of 1 and 60", x -> x.join(0));
        refused(STATE, () -> Briefs.of(30, 31), "join of 30 and 31", x -> x.join(0));
        refused(STATE, () -> Briefs.of(1, 60, 60), "join of 60 and 60", x -> x.join(1));
        due("join of 30 and 30", Briefs.of(30, 30).join(0), 60);
    }

    @Sentence(of = "Promise 6", says = "throws IndexOutOfBoundsException, IllegalStateException")
    void promise6ThrowsTheFirstNamed() {
        refused(OUT, () -> Briefs.of(60, 60), "join(1) of two with 60", x -> x.join(1));
        refused(OUT, () -> Briefs.of(60, 60), "join(2) of two with 60", x -> x.join(2));
        refused(OUT, () -> Briefs.of(60, 60), "join(-1) of two with 60", x -> x.join(-1));
        refused(OUT, () -> Briefs.many(30, 60), "join(29) of thirty with 60", x -> x.join(29));
    }

    // ---- promise 7: split

    @Sentence(of = "Promise 7", says = "Splits an exhibit. Undoable.")
    void promise7Undoable() {
        Supplier<BriefBuilder> cited = () -> {
            BriefBuilder x = Briefs.of(20, 40);
            x.cite(0, 1, 40);
            x.cite(0, 1, 41);
            return x;
        };
        undoable(TWO, "split", x -> x.split(0, 4));
        undoable(cited, "split with citations", x -> x.split(1, 1));
        undoable(() -> Briefs.many(29, 2), "split to thirty", x -> x.split(28, 1));
    }

    @Sentence(of = "Promise 7", says = "`place`: its place")
    void promise7Place() {
        BriefBuilder x = Briefs.many(28, 2);
        due("split of the last", x.split(27, 1), 28);
        due("the last", x.exhibit(28, 0), 28);
        due("split of the first", x.split(0, 1), 29);
        due("the second", x.exhibit(1, 0), 29);
        due("the last of thirty", x.exhibit(29, 0), 28);
        due("split of the only one", Briefs.of(2).split(0, 1), 1);
    }

    @Sentence(of = "Promise 7", says = "`page`: 1 to as many pages as it has, less 1")
    void promise7PageIs1ToItsPagesLess1() {
        int[] pages = {2, 3, 59, 60};
        for (int all : pages) {
            BriefBuilder first = Briefs.of(all);
            first.split(0, 1);
            dueText("split(0, 1) of " + all, Briefs.numbers(first, 1), "1 " + (all - 1));
            BriefBuilder last = Briefs.of(all);
            last.split(0, all - 1);
            dueText("split behind the last but one of " + all, Briefs.numbers(last, 1), (all - 1) + " 1");
            dueThrown("split(0, 0) of " + all, ARGUMENT, x -> x.split(0, 0), Briefs.of(all));
            dueThrown("split behind all of " + all, ARGUMENT, x -> x.split(0, all), Briefs.of(all));
        }
        dueThrown("split(0, 0) of 1", ARGUMENT, x -> x.split(0, 0), Briefs.of(1));
        dueThrown("split(0, 1) of 1", ARGUMENT, x -> x.split(0, 1), Briefs.of(1));
    }

    @Sentence(of = "Promise 7", says = "Returns the number of the new exhibit.")
    void promise7ReturnsTheNumberOfTheNewOne() {
        BriefBuilder x = Briefs.of(60);
        for (int n = 1; n < 30; n++) {
            due("split", x.split(0, 1 + 59 - n), n);
            due("the number behind it", x.exhibit(1, 0), n);
        }
        x.drop(29);
        x.pages(0, 2);
        due("split behind drop", x.split(0, 1), 30);
    }

    @Sentence(of = "Promise 7", says = "Throws `IndexOutOfBoundsException` if there is no such place")
    void promise7ThrowsIfThereIsNoSuchPlace() {
        refusesPlaces("split", (x, n) -> x.split(n, 1));
    }

    @Sentence(of = "Promise 7", says = "Throws `IllegalArgumentException` if page is out of range")
    void promise7ThrowsIfPageIsOutOfRange() {
        refusedEach(ARGUMENT, TWO, "split", (x, n) -> x.split(1, n), 0, 6, 7, -1, LEAST, MOST);
        refusedEach(ARGUMENT, () -> Briefs.of(1), "split of one page", (x, n) -> x.split(0, n), 0, 1, 2);
        refusedEach(ARGUMENT, () -> Briefs.of(60), "split of 60 pages", (x, n) -> x.split(0, n), 0, 60, 61);
    }

    @Sentence(of = "Promise 7", says = "Throws `IllegalStateException` if there are 30 exhibits")
    void promise7ThrowsIfThereAre30() {
        refused(STATE, Briefs::full, "split of the first of thirty", x -> x.split(0, 1));
        refused(STATE, Briefs::full, "split of the last of thirty", x -> x.split(29, 2));
        due("split of the last of 29", Briefs.many(29, 2).split(28, 1), 29);
    }

    @Sentence(of = "Promise 7",
            says = "throws IndexOutOfBoundsException, IllegalArgumentException, IllegalStateException")
    void promise7ThrowsTheFirstNamed() {
        refused(OUT, Briefs::full, "split(30, 0) of thirty", x -> x.split(30, 0));
        refused(OUT, Briefs::full, "split(-1, 1) of thirty", x -> x.split(-1, 1));
        refused(OUT, TWO, "split(2, 0) of two", x -> x.split(2, 0));
        refused(OUT, BriefBuilder::new, "split(0, 0) of none", x -> x.split(0, 0));
        refused(ARGUMENT, Briefs::full, "split(29, 3) of thirty", x -> x.split(29, 3));
        refused(ARGUMENT, Briefs::full, "split(0, 0) of thirty", x -> x.split(0, 0));
    }
}
