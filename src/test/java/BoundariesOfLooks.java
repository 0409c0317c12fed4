import java.util.function.Supplier;

/** The boundary sentences of the promises 17 to 21. */
final class BoundariesOfLooks extends BoundaryTests {
    private static final Supplier<BriefBuilder> TWO = () -> Briefs.of(5, 6);

    BoundariesOfLooks(Check check) {
        super(check);
    }

    /** Two exhibits; the paragraph 0 is full, the paragraph 11 has one, the others are empty. */
    private static BriefBuilder cited() {
        BriefBuilder x = Briefs.of(50, 20);
        x.cite(0, 0, 1);
        x.cite(0, 0, 50);
        x.cite(0, 0, 51);
        x.cite(0, 1, 1);
        x.cite(0, 1, 20);
        x.cite(0, 1, 21);
        x.cite(11, 1, 20);
        return x;
    }

    // ---- promise 17: exhibit

    @Sentence(of = "Promise 17", says = "`place`: its place")
    void promise17Place() {
        BriefBuilder x = Briefs.full();
        for (int place = 0; place < 30; place++) {
            due("exhibit(" + place + ", 0)", x.exhibit(place, 0), place);
        }
        due("exhibit(30, 0)", x.exhibit(30, 0), -1);
        dueThrown("exhibit(-1, 0)", ARGUMENT, b -> b.exhibit(-1, 0), x);
        looksOnly(TWO, "exhibit", b -> b.exhibit(0, 5));
    }

    @Sentence(of = "Promise 17",
            says = "`what`: 0: its number; 1: its pages; 2: its binder, numbered from 0; 3: its tab")
    void promise17WhatIs0To5() {
        BriefBuilder x = Briefs.of(40, 20, 60, 1);
        x.move(0, 1);
        for (int paragraph = 0; paragraph < 12; paragraph++) {
            Briefs.citeTimes(x, 6, paragraph, 2, 60);
        }
        int[][] want = {{1, 20, 0, 0, 1, 0}, {0, 40, 0, 1, 22, 0}, {2, 60, 1, 0, 65, 72}, {3, 1, 2, 0, 128, 0}};
        for (int place = 0; place < 4; place++) {
            for (int what = 0; what <= 5; what++) {
                due("exhibit(" + place + ", " + what + ")", x.exhibit(place, what), want[place][what]);
            }
        }
        dueThrown("exhibit(0, -1)", ARGUMENT, b -> b.exhibit(0, -1), x);
        dueThrown("exhibit(0, 6)", ARGUMENT, b -> b.exhibit(0, 6), x);
    }

    @Sentence(of = "Promise 17", says = "5: citations of it, also lost ones")
    void promise17CitationsAlsoLostOnes() {
        BriefBuilder x = cited();
        due("citations of the first", x.exhibit(0, 5), 3);
        due("citations of the second", x.exhibit(1, 5), 4);
        x.pages(0, 1);
        due("citations of the first with 1 page", x.exhibit(0, 5), 3);
        x.drop(0);
        due("citations when the first is gone", x.exhibit(0, 5), 4);
        x.insert(0, 60);
        due("citations of a new one", x.exhibit(0, 5), 0);
    }

    @Sentence(of = "Promise 17", says = "Returns the number, NONE if there is no such place.")
    void promise17NoneIfThereIsNoSuchPlace() {
        for (int what = 0; what <= 5; what++) {
            due("exhibit(0, " + what + ") of none", new BriefBuilder().exhibit(0, what), -1);
            due("exhibit(2, " + what + ") of two", TWO.get().exhibit(2, what), -1);
            due("exhibit(30, " + what + ") of thirty", Briefs.full().exhibit(30, what), -1);
            due("exhibit(most, " + what + ")", Briefs.full().exhibit(MOST, what), -1);
        }
        due("exhibit(1, 0) of two", TWO.get().exhibit(1, 0), 1);
        due("exhibit(29, 0) of thirty", Briefs.full().exhibit(29, 0), 29);
    }

    @Sentence(of = "Promise 17", says = "Throws `IllegalArgumentException` if place is below 0, or what is not 0 to 5")
    void promise17ThrowsIfPlaceIsBelow0OrWhatIsNot0To5() {
        refusedEach(ARGUMENT, TWO, "exhibit at", (x, n) -> x.exhibit(n, 0), -1, LEAST);
        refusedEach(ARGUMENT, TWO, "exhibit with", (x, n) -> x.exhibit(1, n), -1, 6, LEAST, MOST);
        refusedEach(ARGUMENT, TWO, "exhibit where there is none with", (x, n) -> x.exhibit(2, n), -1, 6);
        refusedEach(ARGUMENT, BriefBuilder::new, "exhibit of none at", (x, n) -> x.exhibit(n, 5), -1, LEAST);
        refusedEach(ARGUMENT, TWO, "exhibit at -1 with", (x, n) -> x.exhibit(-1, n), -1, 6);
    }

    // ---- promise 18: citation

    @Sentence(of = "Promise 18", says = "`paragraph`: 0 to 11")
    void promise18ParagraphIs0To11() {
        BriefBuilder x = cited();
        due("citation(0, 0, 2)", x.citation(0, 0, 2), 1);
        due("citation(11, 0, 2)", x.citation(11, 0, 2), 20);
        due("citation(10, 0, 2)", x.citation(10, 0, 2), -1);
        dueThrown("citation(-1, 0, 0)", OUT, b -> b.citation(-1, 0, 0), x);
        dueThrown("citation(12, 0, 0)", OUT, b -> b.citation(12, 0, 0), x);
    }

    @Sentence(of = "Promise 18", says = "`citation`: its place in the paragraph, from 0")
    void promise18CitationsFrom0() {
        BriefBuilder x = cited();
        int[] pages = {1, 50, 51, 1, 20, 21};
        for (int i = 0; i < 6; i++) {
            due("citation(0, " + i + ", 2)", x.citation(0, i, 2), pages[i]);
        }
        due("citation(0, 6, 2)", x.citation(0, 6, 2), -1);
        dueThrown("citation(0, -1, 2)", ARGUMENT, b -> b.citation(0, -1, 2), x);
        looksOnly(BoundariesOfLooks::cited, "citation", b -> b.citation(0, 5, 4));
    }

    @Sentence(of = "Promise 18",
            says = "`what`: 0: the number of its exhibit; 1: the letter of that, NONE if it is gone")
    void promise18WhatIs0To4() {
        BriefBuilder x = cited();
        x.move(0, 1);
        int[][] want = {{0, 1, 1, 0, 24}, {0, 1, 50, 0, 73}, {0, 1, 51, 1, -1},
            {1, 0, 1, 0, 1}, {1, 0, 20, 0, 20}, {1, 0, 21, 1, -1}};
        for (int i = 0; i < 6; i++) {
            for (int what = 0; what <= 4; what++) {
                due("citation(0, " + i + ", " + what + ")", x.citation(0, i, what), want[i][what]);
            }
        }
        dueThrown("citation(0, 0, -1)", ARGUMENT, b -> b.citation(0, 0, -1), x);
        dueThrown("citation(0, 0, 5)", ARGUMENT, b -> b.citation(0, 0, 5), x);
        x.drop(1);
        int[] gone = {0, -1, 50, 1, -1};
        for (int what = 0; what <= 4; what++) {
            due("citation of one that is gone with " + what, x.citation(0, 1, what), gone[what]);
        }
    }

    @Sentence(of = "Promise 18",
            says = "which is the first page of the exhibit, and its page less 1; NONE if it is lost")
    void promise18ThePageInTheBrief() {
        BriefBuilder x = Briefs.many(30, 60);
        x.cite(0, 0, 1);
        x.cite(0, 0, 60);
        x.cite(0, 29, 1);
        x.cite(0, 29, 60);
        int[] want = {1, 60, 1828, 1887};
        for (int i = 0; i < 4; i++) {
            due("citation(0, " + i + ", 4)", x.citation(0, i, 4), want[i]);
        }
        x.pages(29, 59);
        due("the page 60 of 59", x.citation(0, 3, 4), -1);
        x.drop(29);
        due("the page 1 of one that is gone", x.citation(0, 2, 4), -1);
        due("the page 60 of the first", x.citation(0, 1, 4), 60);
    }

    @Sentence(of = "Promise 18", says = "Returns the number, NONE if there are not so many.")
    void promise18NoneIfThereAreNotSoMany() {
        BriefBuilder x = cited();
        for (int what = 0; what <= 4; what++) {
            due("the seventh of six", x.citation(0, 6, what), -1);
            due("the last int of six", x.citation(0, MOST, what), -1);
            due("the first of none", x.citation(1, 0, what), -1);
            due("the second of one", x.citation(11, 1, what), -1);
            due("the first of none in a new one", new BriefBuilder().citation(0, 0, what), -1);
        }
        due("the sixth of six", x.citation(0, 5, 0), 1);
        due("the first of one", x.citation(11, 0, 0), 1);
    }

    @Sentence(of = "Promise 18", says = "Throws `IndexOutOfBoundsException` if there is no such paragraph")
    void promise18ThrowsIfThereIsNoSuchParagraph() {
        refusesParagraphs("citation", (x, n) -> x.citation(n, 0, 0));
    }

    @Sentence(of = "Promise 18",
            says = "Throws `IllegalArgumentException` if citation is below 0, or what is not 0 to 4")
    void promise18ThrowsIfCitationIsBelow0OrWhatIsNot0To4() {
        Supplier<BriefBuilder> some = BoundariesOfLooks::cited;
        refusedEach(ARGUMENT, some, "citation at", (x, n) -> x.citation(0, n, 0), -1, LEAST);
        refusedEach(ARGUMENT, some, "citation of an empty one at", (x, n) -> x.citation(1, n, 0), -1, LEAST);
        refusedEach(ARGUMENT, some, "citation with", (x, n) -> x.citation(0, 0, n), -1, 5, LEAST, MOST);
        refusedEach(ARGUMENT, some, "citation where there is none with", (x, n) -> x.citation(1, 0, n), -1, 5);
    }

    @Sentence(of = "Promise 18", says = "throws IndexOutOfBoundsException, IllegalArgumentException")
    void promise18ThrowsTheFirstNamed() {
        Supplier<BriefBuilder> some = BoundariesOfLooks::cited;
        refused(OUT, some, "citation(12, -1, 0)", x -> x.citation(12, -1, 0));
        refused(OUT, some, "citation(-1, 0, 5)", x -> x.citation(-1, 0, 5));
        refused(OUT, some, "citation(12, -1, -1)", x -> x.citation(12, -1, -1));
    }

    // ---- promise 19: paragraph

    @Sentence(of = "Promise 19", says = "`paragraph`: 0 to 11")
    void promise19ParagraphIs0To11() {
        BriefBuilder x = cited();
        due("paragraph(0, 0)", x.paragraph(0, 0), 6);
        due("paragraph(1, 0)", x.paragraph(1, 0), 0);
        due("paragraph(10, 0)", x.paragraph(10, 0), 0);
        due("paragraph(11, 0)", x.paragraph(11, 0), 1);
        dueThrown("paragraph(-1, 0)", OUT, b -> b.paragraph(-1, 0), x);
        dueThrown("paragraph(12, 0)", OUT, b -> b.paragraph(12, 0), x);
    }

    @Sentence(of = "Promise 19", says = "0: its citations; 1: of these lost ones; 2: 1 if it is stale, otherwise 0")
    void promise19WhatIs0To3() {
        BriefBuilder x = cited();
        x.print(0);
        x.drop(1);
        int[] full = {6, 4, 1, 6};
        int[] empty = {0, 0, 1, -1};
        for (int what = 0; what <= 3; what++) {
            due("a full one with " + what, x.paragraph(0, what), full[what]);
            due("an empty one with " + what, x.paragraph(1, what), empty[what]);
        }
        x.drop(0);
        due("lost ones of a full one", x.paragraph(0, 1), 6);
        x.print(0);
        due("a full one that was printed", x.paragraph(0, 2), 0);
        dueThrown("paragraph(0, -1)", ARGUMENT, b -> b.paragraph(0, -1), x);
        dueThrown("paragraph(0, 4)", ARGUMENT, b -> b.paragraph(0, 4), x);
        looksOnly(BoundariesOfLooks::cited, "paragraph", b -> b.paragraph(0, 2));
    }

    @Sentence(of = "Promise 19", says = "3: citations that it had when it was printed last, NONE if it never was")
    void promise19CitationsWhenItWasPrintedLast() {
        BriefBuilder x = Briefs.of(5);
        due("one that was never printed", x.paragraph(0, 3), -1);
        x.print(0);
        due("one that was printed empty", x.paragraph(0, 3), 0);
        due("the one behind it", x.paragraph(1, 3), -1);
        Briefs.citeTimes(x, 6, 0, 0, 6);
        due("one that was printed empty and is full", x.paragraph(0, 3), 0);
        x.print(0);
        due("one that was printed full", x.paragraph(0, 3), 6);
        x.clean(0);
        due("one that was printed full and is empty", x.paragraph(0, 3), 6);
        x.print(0);
        due("one that was printed empty then", x.paragraph(0, 3), 0);
        BriefBuilder y = new BriefBuilder();
        y.print(11);
        y.undo();
        due("one whose only print is undone", y.paragraph(11, 3), -1);
    }

    @Sentence(of = "Promise 19", says = "Returns the number.")
    void promise19ReturnsTheNumber() {
        for (int n = 0; n <= 6; n++) {
            BriefBuilder x = Briefs.citeTimes(Briefs.of(5), n, 11, 0, 6);
            x.print(11);
            due("citations", x.paragraph(11, 0), n);
            due("lost ones", x.paragraph(11, 1), n);
            due("stale", x.paragraph(11, 2), 0);
            due("printed", x.paragraph(11, 3), n);
        }
    }

    @Sentence(of = "Promise 19", says = "Throws `IndexOutOfBoundsException` if there is no such paragraph")
    void promise19ThrowsIfThereIsNoSuchParagraph() {
        refusesParagraphs("paragraph", (x, n) -> x.paragraph(n, 0));
    }

    @Sentence(of = "Promise 19", says = "Throws `IllegalArgumentException` if what is not 0 to 3")
    void promise19ThrowsIfWhatIsNot0To3() {
        refusedEach(ARGUMENT, BoundariesOfLooks::cited, "paragraph with", (x, n) -> x.paragraph(0, n),
                -1, 4, LEAST, MOST);
        refusedEach(ARGUMENT, BriefBuilder::new, "paragraph of a new one with", (x, n) -> x.paragraph(11, n), -1, 4);
    }

    @Sentence(of = "Promise 19", says = "throws IndexOutOfBoundsException, IllegalArgumentException")
    void promise19ThrowsTheFirstNamed() {
        refused(OUT, BoundariesOfLooks::cited, "paragraph(12, 4)", x -> x.paragraph(12, 4));
        refused(OUT, BoundariesOfLooks::cited, "paragraph(-1, -1)", x -> x.paragraph(-1, -1));
    }

    // ---- promise 20: table

    @Sentence(of = "Promise 20", says = "`place`: its place")
    void promise20Place() {
        BriefBuilder x = Briefs.full();
        x.cite(0, 0, 1);
        x.cite(1, 28, 1);
        x.cite(2, 29, 1);
        due("table(0)", x.table(0), 1);
        due("table(1)", x.table(1), 0);
        due("table(28)", x.table(28), 2);
        due("table(29)", x.table(29), 4);
        dueThrown("table(-1)", OUT, b -> b.table(-1), x);
        dueThrown("table(30)", OUT, b -> b.table(30), x);
        looksOnly(BoundariesOfLooks::cited, "table", b -> b.table(0));
    }

    @Sentence(of = "Promise 20",
            says = "Returns a mask with the bit p for the paragraph p, of citations that are not lost.")
    void promise20TheMask() {
        BriefBuilder x = Briefs.of(5, 6);
        due("without citations", x.table(0), 0);
        for (int paragraph = 0; paragraph < 12; paragraph++) {
            x.cite(paragraph, 0, 5);
            due("cited up to " + paragraph, x.table(0), (1 << paragraph + 1) - 1);
            x.cite(paragraph, 1, 7);
        }
        due("all lost", x.table(1), 0);
        x.pages(1, 7);
        due("all lost no more", x.table(1), 4095);
        x.pages(0, 4);
        due("all lost by one page", x.table(0), 0);
        BriefBuilder y = Briefs.of(5);
        Briefs.citeTimes(y, 5, 11, 0, 6);
        due("five lost ones", y.table(0), 0);
        y.cite(11, 0, 5);
        due("the sixth not lost", y.table(0), 2048);
    }

    @Sentence(of = "Promise 20", says = "Throws `IndexOutOfBoundsException` if there is no such place")
    void promise20ThrowsIfThereIsNoSuchPlace() {
        refusesPlaces("table", BriefBuilder::table);
    }

    // ---- promise 21: count

    @Sentence(of = "Promise 21", says = "`what`: 0: exhibits; 1: pages of all exhibits; 2: binders; 3: citations")
    void promise21WhatIs0To8() {
        BriefBuilder x = cited();
        x.print(0);
        x.set(70);
        int[] want = {2, 70, 1, 7, 2, 11, 0, 70, 6};
        for (int what = 0; what <= 8; what++) {
            due("count(" + what + ")", x.count(what), want[what]);
        }
        dueThrown("count(-1)", ARGUMENT, b -> b.count(-1), x);
        dueThrown("count(9)", ARGUMENT, b -> b.count(9), x);
        looksOnly(BoundariesOfLooks::cited, "count", b -> b.count(5));
    }

    @Sentence(of = "Promise 21", says = "5: stale paragraphs")
    void promise21StaleParagraphs() {
        BriefBuilder x = Briefs.of(5);
        for (int paragraph = 0; paragraph < 12; paragraph++) {
            due("stale ones", x.count(5), 12 - paragraph);
            x.print(paragraph);
        }
        due("stale ones behind all", x.count(5), 0);
        x.cite(11, 0, 1);
        due("stale ones behind cite", x.count(5), 1);
    }

    @Sentence(of = "Promise 21", says = "6: exhibits that nothing cites that is not lost")
    void promise21ExhibitsThatNothingCites() {
        due("of none", new BriefBuilder().count(6), 0);
        BriefBuilder x = Briefs.full();
        due("of thirty", x.count(6), 30);
        for (int place = 0; place < 30; place++) {
            x.cite(place / 6, place, 3);
            due("of thirty, cited up to " + place, x.count(6), 29 - place);
        }
        x.pages(29, 2);
        due("with one that only a lost one cites", x.count(6), 1);
        x.pages(29, 3);
        x.cite(6, 29, 4);
        due("with one that a lost one cites, too", x.count(6), 0);
    }

    @Sentence(of = "Promise 21", says = "8: saved states")
    void promise21SavedStates() {
        BriefBuilder x = new BriefBuilder();
        for (int n = 0; n <= 8; n++) {
            due("saved states", x.count(8), Math.min(n, 6));
            x.print(0);
        }
        x.undo();
        due("saved states behind undo", x.count(8), 5);
    }

    @Sentence(of = "Promise 21", says = "Returns the number.")
    void promise21ReturnsTheNumber() {
        int[] none = {0, 0, 0, 0, 0, 12, 0, 60, 0};
        int[] full = {30, 1800, 30, 72, 72, 12, 30, 60, 6};
        BriefBuilder x = Briefs.many(30, 60);
        x.pages(29, 59);
        for (int paragraph = 0; paragraph < 12; paragraph++) {
            Briefs.citeTimes(x, 6, paragraph, 29, 60);
        }
        due("pages with 59", x.count(1), 1799);
        x.drop(29);
        x.insert(29, 60);
        for (int what = 0; what <= 8; what++) {
            due("count(" + what + ") of a new one", new BriefBuilder().count(what), none[what]);
            due("count(" + what + ") of a full one", x.count(what), full[what]);
        }
    }

    @Sentence(of = "Promise 21", says = "Throws `IllegalArgumentException` if what is not 0 to 8")
    void promise21ThrowsIfWhatIsNot0To8() {
        refusedEach(ARGUMENT, BoundariesOfLooks::cited, "count", BriefBuilder::count, -1, 9, LEAST, MOST);
        refusedEach(ARGUMENT, BriefBuilder::new, "count of a new one", BriefBuilder::count, -1, 9);
    }
}
