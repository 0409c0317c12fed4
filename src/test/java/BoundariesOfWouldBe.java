import java.util.function.Supplier;

/** The boundary sentences of the promises 22 to 27. */
final class BoundariesOfWouldBe extends BoundaryTests {
    private static final Supplier<BriefBuilder> TWO = () -> Briefs.of(5, 6);

    BoundariesOfWouldBe(Check check) {
        super(check);
    }

    /** Three exhibits; the paragraphs 0, 1 and 2 cite A, B and C, and all paragraphs are printed. */
    private static BriefBuilder printed() {
        BriefBuilder x = Briefs.of(50, 10, 30);
        x.cite(0, 0, 1);
        x.cite(1, 1, 1);
        x.cite(2, 2, 1);
        return Briefs.printAll(x);
    }

    // ---- promise 22: ifInserted

    @Sentence(of = "Promise 22", says = "`place`: 0 to as many as there are")
    void promise22PlaceIs0ToAsManyAsThereAre() {
        BriefBuilder x = printed();
        int[] stale = {3, 2, 1, 0};
        int[] binders = {3, 3, 2, 2};
        for (int place = 0; place <= 3; place++) {
            due("stale with one at " + place, x.ifInserted(place, 30, 0), stale[place]);
            due("binders with one at " + place, x.ifInserted(place, 30, 1), binders[place]);
        }
        dueThrown("ifInserted(4, 30, 0)", OUT, b -> b.ifInserted(4, 30, 0), x);
        dueThrown("ifInserted(-1, 30, 0)", OUT, b -> b.ifInserted(-1, 30, 0), x);
        due("binders of a first one", new BriefBuilder().ifInserted(0, 60, 1), 1);
        dueThrown("ifInserted(1, 30, 0) of none", OUT, b -> b.ifInserted(1, 30, 0), new BriefBuilder());
        looksOnly(BoundariesOfWouldBe::printed, "ifInserted", b -> b.ifInserted(0, 30, 0));
        looksOnly(BoundariesOfWouldBe::printed, "ifInserted for binders", b -> b.ifInserted(3, 60, 1));
    }

    @Sentence(of = "Promise 22", says = "`pages`: 1 to 60")
    void promise22PagesAre1To60() {
        BriefBuilder x = Briefs.of(59);
        due("binders with 1 page", x.ifInserted(1, 1, 1), 1);
        due("binders with 2 pages", x.ifInserted(1, 2, 1), 2);
        due("binders with 60 pages", x.ifInserted(0, 60, 1), 2);
        dueThrown("ifInserted(0, 0, 1)", ARGUMENT, b -> b.ifInserted(0, 0, 1), x);
        dueThrown("ifInserted(0, 61, 1)", ARGUMENT, b -> b.ifInserted(0, 61, 1), x);
    }

    @Sentence(of = "Promise 22", says = "`what`: 0: paragraphs that would be stale; 1: binders")
    void promise22WhatIs0Or1() {
        BriefBuilder x = printed();
        due("ifInserted(0, 1, 0)", x.ifInserted(0, 1, 0), 3);
        due("ifInserted(0, 1, 1)", x.ifInserted(0, 1, 1), 2);
        due("ifInserted(3, 1, 0)", x.ifInserted(3, 1, 0), 0);
        due("ifInserted(0, 60, 1)", x.ifInserted(0, 60, 1), 3);
        dueThrown("ifInserted(0, 1, -1)", ARGUMENT, b -> b.ifInserted(0, 1, -1), x);
        dueThrown("ifInserted(0, 1, 2)", ARGUMENT, b -> b.ifInserted(0, 1, 2), x);
    }

    @Sentence(of = "Promise 22", says = "(30 exhibits do not matter)")
    void promise22ThirtyExhibitsDoNotMatter() {
        BriefBuilder x = Briefs.many(30, 60);
        x.cite(0, 29, 1);
        x.cite(1, 0, 1);
        Briefs.printAll(x);
        due("stale with a 31st ahead", x.ifInserted(0, 60, 0), 2);
        due("stale with a 31st ahead of the last", x.ifInserted(29, 60, 0), 1);
        due("stale with a 31st behind", x.ifInserted(30, 60, 0), 0);
        due("binders with a 31st ahead", x.ifInserted(0, 60, 1), 31);
        due("binders with a 31st behind", x.ifInserted(30, 1, 1), 31);
        due("exhibits", x.count(0), 30);
        due("binders with a 31st in 90 pages", Briefs.full().ifInserted(30, 30, 1), 2);
        due("binders with a 31st beyond 90 pages", Briefs.full().ifInserted(30, 31, 1), 3);
    }

    @Sentence(of = "Promise 22", says = "Returns the number.")
    void promise22ReturnsTheNumber() {
        due("stale when none was printed", new BriefBuilder().ifInserted(0, 1, 0), 12);
        due("stale when all were printed empty", Briefs.printAll(new BriefBuilder()).ifInserted(0, 1, 0), 0);
        BriefBuilder x = printed();
        x.drop(0);
        due("stale ones", x.count(5), 3);
        due("stale with one ahead again", x.ifInserted(0, 1, 0), 1);
        due("stale with one between", x.ifInserted(1, 1, 0), 2);
        due("stale with one behind", x.ifInserted(2, 1, 0), 3);
    }

    @Sentence(of = "Promise 22", says = "Throws `IndexOutOfBoundsException` if place is out of range")
    void promise22ThrowsIfPlaceIsOutOfRange() {
        refusedEach(OUT, BriefBuilder::new, "ifInserted of none", (x, n) -> x.ifInserted(n, 5, 0), -1, 1);
        refusedEach(OUT, TWO, "ifInserted", (x, n) -> x.ifInserted(n, 5, 1), -1, 3, LEAST, MOST);
        refusedEach(OUT, Briefs::full, "ifInserted of thirty", (x, n) -> x.ifInserted(n, 5, 0), -1, 31);
    }

    @Sentence(of = "Promise 22", says = "Throws `IllegalArgumentException` if pages or what is out of range")
    void promise22ThrowsIfPagesOrWhatIsOutOfRange() {
        refusedEach(ARGUMENT, TWO, "ifInserted of pages", (x, n) -> x.ifInserted(2, n, 0), 0, 61, -1, LEAST, MOST);
        refusedEach(ARGUMENT, TWO, "ifInserted with", (x, n) -> x.ifInserted(2, 5, n), -1, 2, LEAST, MOST);
        refusedEach(ARGUMENT, Briefs::full, "ifInserted of thirty with", (x, n) -> x.ifInserted(30, 60, n), -1, 2);
    }

    @Sentence(of = "Promise 22", says = "throws IndexOutOfBoundsException, IllegalArgumentException")
    void promise22ThrowsTheFirstNamed() {
        refused(OUT, TWO, "ifInserted(3, 0, 0)", x -> x.ifInserted(3, 0, 0));
        refused(OUT, TWO, "ifInserted(-1, 1, 2)", x -> x.ifInserted(-1, 1, 2));
        refused(OUT, Briefs::full, "ifInserted(31, 61, -1)", x -> x.ifInserted(31, 61, -1));
    }

    // ---- promise 23: ifDropped

    @Sentence(of = "Promise 23", says = "`place`: its place")
    void promise23Place() {
        BriefBuilder x = printed();
        int[] stale = {3, 2, 1};
        for (int place = 0; place < 3; place++) {
            due("lost without " + place, x.ifDropped(place, 0), 1);
            due("stale without " + place, x.ifDropped(place, 1), stale[place]);
        }
        dueThrown("ifDropped(-1, 0)", OUT, b -> b.ifDropped(-1, 0), x);
        dueThrown("ifDropped(3, 0)", OUT, b -> b.ifDropped(3, 0), x);
        BriefBuilder full = Briefs.full();
        full.cite(0, 29, 3);
        Briefs.printAll(full);
        due("stale without the last of thirty", full.ifDropped(29, 1), 1);
        due("lost without the last of thirty", full.ifDropped(29, 0), 1);
        due("lost without the first of thirty", full.ifDropped(0, 0), 0);
        looksOnly(BoundariesOfWouldBe::printed, "ifDropped", b -> b.ifDropped(2, 0));
        looksOnly(BoundariesOfWouldBe::printed, "ifDropped for stale ones", b -> b.ifDropped(0, 1));
    }

    @Sentence(of = "Promise 23", says = "`what`: 0: citations that would be lost; 1: paragraphs that would be stale")
    void promise23WhatIs0Or1() {
        BriefBuilder x = Briefs.of(5, 6);
        x.cite(0, 1, 6);
        x.cite(0, 1, 7);
        x.cite(1, 1, 60);
        Briefs.printAll(x);
        due("lost, of which two are already", x.ifDropped(1, 0), 1);
        due("stale, also by a letter of one that is lost", x.ifDropped(1, 1), 2);
        due("lost without another", x.ifDropped(0, 0), 0);
        due("stale without another", x.ifDropped(0, 1), 2);
        dueThrown("ifDropped(0, -1)", ARGUMENT, b -> b.ifDropped(0, -1), x);
        dueThrown("ifDropped(0, 2)", ARGUMENT, b -> b.ifDropped(0, 2), x);
    }

    @Sentence(of = "Promise 23", says = "Returns the number.")
    void promise23ReturnsTheNumber() {
        BriefBuilder x = Briefs.of(60);
        due("lost without citations", x.ifDropped(0, 0), 0);
        due("stale when none was printed", x.ifDropped(0, 1), 12);
        for (int paragraph = 0; paragraph < 12; paragraph++) {
            Briefs.citeTimes(x, 6, paragraph, 0, 60);
        }
        due("lost of all", x.ifDropped(0, 0), 72);
        Briefs.printAll(x);
        due("stale of all", x.ifDropped(0, 1), 12);
        x.pages(0, 59);
        due("lost of all that are lost already", x.ifDropped(0, 0), 0);
        BriefBuilder y = printed();
        y.insert(0, 1);
        due("stale ones", y.count(5), 3);
        due("stale without the one that was inserted", y.ifDropped(0, 1), 0);
        due("stale without the next one", y.ifDropped(1, 1), 1);
    }

    @Sentence(of = "Promise 23", says = "Throws `IndexOutOfBoundsException` if there is no such place")
    void promise23ThrowsIfThereIsNoSuchPlace() {
        refusesPlaces("ifDropped with 0", (x, n) -> x.ifDropped(n, 0));
        refusesPlaces("ifDropped with 1", (x, n) -> x.ifDropped(n, 1));
    }

    @Sentence(of = "Promise 23", says = "Throws `IllegalArgumentException` if what is not 0 or 1")
    void promise23ThrowsIfWhatIsNot0Or1() {
        refusedEach(ARGUMENT, TWO, "ifDropped with", (x, n) -> x.ifDropped(1, n), -1, 2, LEAST, MOST);
    }

    @Sentence(of = "Promise 23", says = "throws IndexOutOfBoundsException, IllegalArgumentException")
    void promise23ThrowsTheFirstNamed() {
        refused(OUT, TWO, "ifDropped(2, 2)", x -> x.ifDropped(2, 2));
        refused(OUT, TWO, "ifDropped(-1, -1)", x -> x.ifDropped(-1, -1));
        refused(OUT, BriefBuilder::new, "ifDropped(0, 2) of none", x -> x.ifDropped(0, 2));
    }

    // ---- promise 24: bestMove

    @Sentence(of = "Promise 24", says = "`place`: its place")
    void promise24Place() {
        due("bestMove of the only one", Briefs.of(5).bestMove(0), 0);
        BriefBuilder x = Briefs.full();
        due("bestMove of the last of thirty", x.bestMove(29), 0);
        due("bestMove of the first of thirty", x.bestMove(0), 0);
        x.cite(0, 29, 1);
        x.print(0);
        due("bestMove of the last, which is cited", x.bestMove(29), 29);
        x.move(29, 0);
        due("bestMove of the first, which was printed as the last", x.bestMove(0), 29);
        dueThrown("bestMove(-1)", OUT, b -> b.bestMove(-1), x);
        dueThrown("bestMove(30)", OUT, b -> b.bestMove(30), x);
        looksOnly(BoundariesOfWouldBe::printed, "bestMove", b -> b.bestMove(0));
    }

    @Sentence(of = "Promise 24", says = "Returns the place with the fewest stale paragraphs, if it was moved there")
    void promise24TheFewestStaleOnes() {
        for (int from = 0; from < 5; from++) {
            for (int to = 0; to < 5; to++) {
                BriefBuilder x = Briefs.many(5, 1);
                for (int place = 0; place < 5; place++) {
                    x.cite(place, place, 1);
                    x.print(place);
                }
                x.move(from, to);
                due("bestMove behind move(" + from + ", " + to + ")", x.bestMove(to), from);
            }
        }
        BriefBuilder y = Briefs.of(40, 40, 20, 20);
        y.cite(0, 1, 1);
        y.print(0);
        due("bestMove that would save a binder", y.bestMove(1), 1);
        BriefBuilder z = Briefs.of(1, 1, 1);
        z.cite(0, 2, 1);
        z.print(0);
        z.drop(0);
        due("bestMove when it was printed with a letter behind the last", z.bestMove(1), 0);
        due("bestMove of the other one", z.bestMove(0), 0);
    }

    @Sentence(of = "Promise 24", says = "of several the one with the fewest binders, of these the lowest.")
    void promise24TheFewestBindersAndTheLowestPlace() {
        BriefBuilder x = Briefs.of(40, 40, 20, 20);
        due("two binders at 2 and 3", x.bestMove(1), 2);
        due("two binders at 0 and behind it", x.bestMove(2), 0);
        due("three binders at 2 and 3", Briefs.of(60, 30, 60, 30).bestMove(1), 2);
        due("two binders at 0 and 1", Briefs.of(30, 60, 30).bestMove(2), 0);
        due("two binders at 0 and 2", Briefs.of(30, 60, 30).bestMove(1), 0);
        due("two binders at 2 and 3", Briefs.of(40, 40, 20, 1, 19).bestMove(0), 2);
        due("two binders everywhere", Briefs.of(60, 60).bestMove(1), 0);
        BriefBuilder y = Briefs.of(60, 30, 60, 30);
        y.set(10);
        due("four binders everywhere", y.bestMove(3), 0);
        y.set(200);
        due("one binder everywhere", y.bestMove(3), 0);
    }

    @Sentence(of = "Promise 24", says = "Throws `IndexOutOfBoundsException` if there is no such place")
    void promise24ThrowsIfThereIsNoSuchPlace() {
        refusesPlaces("bestMove", BriefBuilder::bestMove);
    }

    // ---- promise 25: leastPages

    @Sentence(of = "Promise 25", says = "`binders`: 1 to 30")
    void promise25BindersAre1To30() {
        BriefBuilder x = Briefs.many(30, 6);
        due("leastPages(1)", x.leastPages(1), 180);
        due("leastPages(29)", x.leastPages(29), 12);
        due("leastPages(30)", x.leastPages(30), 10);
        dueThrown("leastPages(0)", ARGUMENT, b -> b.leastPages(0), x);
        dueThrown("leastPages(31)", ARGUMENT, b -> b.leastPages(31), x);
        looksOnly(TWO, "leastPages", b -> b.leastPages(1));
    }

    @Sentence(of = "Promise 25",
            says = "Returns the least setting 0, 10 to 200, with which there would be at most so many")
    void promise25TheLeastSettingIs10To200() {
        due("without exhibits", new BriefBuilder().leastPages(1), 10);
        due("of one page", Briefs.of(1).leastPages(1), 10);
        due("of 60 pages in one", Briefs.of(60).leastPages(1), 10);
        due("of 10 pages together", Briefs.of(4, 6).leastPages(1), 10);
        due("of 11 pages together", Briefs.of(5, 6).leastPages(1), 11);
        due("of 199 pages together", Briefs.of(60, 60, 60, 19).leastPages(1), 199);
        due("of 200 pages together", Briefs.of(60, 60, 60, 20).leastPages(1), 200);
        BriefBuilder x = Briefs.of(50, 60, 40, 50);
        due("of four in two", x.leastPages(2), 110);
        due("of four in three", x.leastPages(3), 90);
        due("of four in four", x.leastPages(4), 10);
        due("the setting", x.count(7), 60);
    }

    @Sentence(of = "Promise 25", says = "NONE if there is none.")
    void promise25NoneIfThereIsNone() {
        due("of 201 pages together", Briefs.of(60, 60, 60, 21).leastPages(1), -1);
        due("of 201 pages in two", Briefs.of(60, 60, 60, 21).leastPages(2), 120);
        due("of thirty in nine", Briefs.many(30, 60).leastPages(9), -1);
        due("of thirty in ten", Briefs.many(30, 60).leastPages(10), 180);
        due("of thirty in thirty", Briefs.many(30, 60).leastPages(30), 10);
    }

    @Sentence(of = "Promise 25", says = "Throws `IllegalArgumentException` if binders is out of range")
    void promise25ThrowsIfBindersIsOutOfRange() {
        refusedEach(ARGUMENT, TWO, "leastPages", BriefBuilder::leastPages, 0, 31, -1, LEAST, MOST);
        refusedEach(ARGUMENT, BriefBuilder::new, "leastPages of none", BriefBuilder::leastPages, 0, 31);
    }

    // ---- promise 26: citedShare

    @Sentence(of = "Promise 26", says = "Returns the exhibits that something cites that is not lost, as a double")
    void promise26TheShareOfAll() {
        for (int exhibits = 1; exhibits <= 30; exhibits++) {
            BriefBuilder x = Briefs.many(exhibits, 5);
            dueShare("none of " + exhibits, x.citedShare(), 0.0);
            for (int cited = 1; cited <= exhibits; cited++) {
                x.cite(cited % 6, cited - 1, 5);
                dueShare(cited + " of " + exhibits, x.citedShare(), (double) cited / exhibits);
            }
        }
        BriefBuilder y = Briefs.of(5, 5);
        y.cite(0, 0, 6);
        dueShare("one that a lost one cites", y.citedShare(), 0.0);
        y.cite(11, 0, 5);
        dueShare("one that another one cites", y.citedShare(), 0.5);
        y.drop(0);
        dueShare("when it is gone", y.citedShare(), 0.0);
        looksOnly(TWO, "citedShare", b -> (long) b.citedShare());
    }

    @Sentence(of = "Promise 26", says = "1.0 without exhibits.")
    void promise26OneWithoutExhibits() {
        BriefBuilder x = new BriefBuilder();
        dueShare("a new one", x.citedShare(), 1.0);
        x.insert(0, 5);
        dueShare("one exhibit", x.citedShare(), 0.0);
        x.cite(0, 0, 1);
        dueShare("one that is cited", x.citedShare(), 1.0);
        x.drop(0);
        dueShare("none again", x.citedShare(), 1.0);
    }

    // ---- promise 27: digest

    /** Thirty exhibits and six citations in each paragraph. */
    private static BriefBuilder fullOfCitations() {
        BriefBuilder x = Briefs.full();
        for (int paragraph = 0; paragraph < 12; paragraph++) {
            for (int n = 0; n < 6; n++) {
                x.cite(paragraph, paragraph + 2 * n, 1 + n);
            }
        }
        return x;
    }

    /** All are printed, and exhibits are dropped until so many are left. */
    private static BriefBuilder droppedTo(int exhibits) {
        BriefBuilder x = Briefs.printAll(fullOfCitations());
        for (int left = 29; left >= exhibits; left--) {
            x.drop(left / 2);
        }
        return x;
    }

    private static BriefBuilder citedUpTo(int cited, int exhibits) {
        BriefBuilder x = Briefs.many(exhibits, 1);
        for (int place = 0; place < cited; place++) {
            x.cite(place % 6, place, 1);
        }
        return x;
    }

    @Sentence(of = "Promise 27", says = "The hash starts at 3137.")
    void promise27OfANewOne() {
        due("digest", new BriefBuilder().digest(), -3718859899675092650L);
        due("digest by the list", Briefs.listed(BriefBuilder::new, ""), -3718859899675092650L);
    }

    @Sentence(of = "Promise 27", says = "The values are: count(0) to count(8); for each exhibit, by its place")
    void promise27OfEmptyAndFullOnes() {
        dueDigest("thirty", Briefs::full, "");
        dueDigest("full paragraphs", BoundariesOfWouldBe::fullOfCitations, "");
        dueDigest("full paragraphs that are printed", () -> Briefs.printAll(fullOfCitations()), "");
        for (int left = 29; left >= 0; left--) {
            int exhibits = left;
            dueDigest("exhibits dropped to " + left, () -> droppedTo(exhibits), "");
        }
        dueDigest("empty paragraphs that were full", () -> {
            BriefBuilder x = droppedTo(0);
            for (int paragraph = 0; paragraph < 12; paragraph++) {
                x.clean(paragraph);
            }
            return x;
        }, "");
        looksOnly(BoundariesOfWouldBe::printed, "digest", BriefBuilder::digest);
    }

    @Sentence(of = "Promise 27", says = "the bits of citedShare (as Double.doubleToLongBits)")
    void promise27TheBitsOfEachShare() {
        for (int n = 0; n <= 30; n++) {
            for (int k = 0; k <= n; k++) {
                int exhibits = n;
                int cited = k;
                dueDigest(k + " cited of " + n, () -> citedUpTo(cited, exhibits), "");
            }
        }
    }

    @Sentence(of = "Promise 27", says = "ifInserted at the place 0 with 5 pages with 0 and 1; leastPages of 2")
    void promise27FivePagesAheadAndTwoBinders() {
        int[][] briefs = {{54}, {55}, {56}, {60}, {55, 60}, {56, 60}, {60, 60, 60, 60, 60, 60, 41}};
        for (int[] pages : briefs) {
            dueDigest(pages[0] + " pages and others", () -> Briefs.of(pages), "");
            dueDigest(pages[0] + " pages with a print", () -> {
                BriefBuilder x = Briefs.of(pages);
                x.cite(0, 0, 1);
                return Briefs.printAll(x);
            }, "");
        }
    }

    @Sentence(of = "Promise 27", says = "the length of the buffer and each of its character codes.")
    void promise27TheBuffer() {
        StringBuilder text = new StringBuilder();
        for (int n = 1; n <= 60; n++) {
            text.append((char) (n % 2 == 0 ? 33 : 127 - n));
            String typed = text.toString();
            dueDigest(n + " characters", () -> Briefs.typed(typed), typed);
        }
    }

    @Sentence(of = "Promise 27", says = "Returns the hash.")
    void promise27ReturnsTheHash() {
        BriefBuilder x = printed();
        long hash = x.digest();
        due("digest again", x.digest(), hash);
        x.append('A');
        due("whether a buffer changes it", x.digest() == hash ? 0 : 1, 1);
        x.clearBuffer();
        due("digest as before", x.digest(), hash);
    }
}
