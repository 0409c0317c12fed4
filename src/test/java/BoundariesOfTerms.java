/** The boundary sentences of the document's terms: exhibits, binders, tabs, paragraphs and citations. */
final class BoundariesOfTerms extends BoundaryTests {
    BoundariesOfTerms(Check check) {
        super(check);
    }

    // ---- what it is

    @Sentence(of = "What it is", says = "An object is used for at most 512 calls after it has been made")
    void termsTheLastOf512Calls() {
        BriefBuilder x = new BriefBuilder();
        for (int call = 1; call <= 511; call++) {
            if (call % 2 == 0) {
                x.insert(0, 1 + call % 60);
            } else {
                Check.outcome(() -> x.drop(0));
            }
        }
        due("insert as the 512th call", x.insert(0, 60), 255);
        BriefBuilder y = new BriefBuilder();
        for (int call = 1; call <= 511; call++) {
            y.set(10 + call % 191);
        }
        due("undo as the 512th call", y.undo(), 5);
        BriefBuilder z = new BriefBuilder();
        for (int call = 1; call <= 511; call++) {
            Check.outcome(() -> z.append('A'));
        }
        due("clearBuffer as the 512th call", z.clearBuffer(), 60);
    }

    // ---- exhibits

    @Sentence(of = "Exhibits", says = "There are at most 30 exhibits, in an order.")
    void termsAtMost30Exhibits() {
        BriefBuilder x = new BriefBuilder();
        due("exhibits at first", x.count(0), 0);
        for (int n = 1; n <= 30; n++) {
            x.insert(n - 1, 2);
            due("exhibits", x.count(0), n);
        }
        dueThrown("insert of the 31st", STATE, b -> b.insert(30, 2), x);
        dueThrown("split to 31", STATE, b -> b.split(0, 1), x);
        due("exhibits behind the refused", x.count(0), 30);
        x.join(28);
        due("exhibits behind join", x.count(0), 29);
        x.split(28, 2);
        due("exhibits behind split", x.count(0), 30);
        x.drop(29);
        x.insert(29, 2);
        due("exhibits behind drop and insert", x.count(0), 30);
    }

    @Sentence(of = "Exhibits",
            says = "the exhibits are numbered from 0 in the order in which they came, also those that are gone")
    void termsNumbersFrom0AlsoOfThoseThatAreGone() {
        BriefBuilder x = new BriefBuilder();
        due("the first number", x.insert(0, 5), 0);
        due("the next number, ahead of it", x.insert(0, 5), 1);
        x.drop(0);
        due("the number behind drop", x.insert(1, 5), 2);
        x.join(0);
        due("the number of split behind join", x.split(0, 3), 3);
        dueThrown("refused insert", OUT, b -> b.insert(9, 5), x);
        dueThrown("refused split", ARGUMENT, b -> b.split(0, 3), x);
        due("the number behind refused ones", x.insert(0, 5), 4);
        dueText("numbers", Briefs.numbers(x, 0), "4 0 3");
        x.drop(0);
        x.drop(0);
        x.drop(0);
        due("the number when all are gone", x.insert(0, 5), 5);
    }

    @Sentence(of = "Exhibits", says = "the exhibits are numbered from 0 in the order in which they came")
    void termsOnlyInsertAndSplitTakeNumbers() {
        BriefBuilder x = Briefs.of(5, 6, 7);
        x.move(0, 1);
        x.pages(0, 9);
        x.cite(0, 0, 60);
        x.clean(0);
        x.print(0);
        x.set(10);
        Briefs.type(x, "A.1").citeAll(0);
        Briefs.askAll(x);
        due("the number behind calls that take none", x.insert(0, 5), 3);
        x.join(0);
        x.drop(0);
        due("the number behind join and drop", x.split(0, 1), 4);
    }

    @Sentence(of = "Exhibits", says = "and pages, 1 to 60.")
    void termsPagesOfAnExhibitAre1To60() {
        BriefBuilder x = Briefs.of(1, 60);
        dueText("pages", Briefs.numbers(x, 1), "1 60");
        x.pages(0, 60);
        x.pages(1, 1);
        dueText("pages that are changed", Briefs.numbers(x, 1), "60 1");
        dueThrown("pages to 0", ARGUMENT, b -> b.pages(0, 0), x);
        dueThrown("pages to 61", ARGUMENT, b -> b.pages(0, 61), x);
        dueThrown("join to 61", STATE, b -> b.join(0), x);
        x.split(0, 59);
        dueText("pages that are split", Briefs.numbers(x, 1), "59 1 1");
        x.join(0);
        dueText("pages that are joined", Briefs.numbers(x, 1), "60 1");
    }

    @Sentence(of = "Exhibits", says = "Its place is its index in the order, from 0")
    void termsPlacesFrom0() {
        BriefBuilder x = Briefs.full();
        due("the number at the place 0", x.exhibit(0, 0), 0);
        due("the number at the place 29", x.exhibit(29, 0), 29);
        due("the number at the place 30", x.exhibit(30, 0), BriefBuilder.NONE);
        dueThrown("the place -1", ARGUMENT, b -> b.exhibit(-1, 0), x);
    }

    @Sentence(of = "Exhibits",
            says = "its letter is by its place: 0 to 25 are \"A\" to \"Z\", 26 to 29 \"AA\" to \"AD\".")
    void termsLettersByPlace() {
        BriefBuilder x = Briefs.full();
        for (int place = 0; place < 30; place++) {
            Briefs.type(x, Briefs.LETTERS[place] + ".1");
            x.citeAll(0);
            due("the exhibit with the letter " + Briefs.LETTERS[place], x.citation(0, 0, 0), place);
        }
        Briefs.type(x, "AE.1");
        due("the letter behind AD", x.firstError(), 1);
        dueThrown("citeAll of the letter behind AD", ARGUMENT, b -> b.citeAll(0), x);
    }

    @Sentence(of = "Exhibits", says = "Letters are told as places.")
    void termsLettersAreToldAsPlaces() {
        BriefBuilder x = Briefs.full();
        int[] places = {0, 25, 26, 29};
        for (int place : places) {
            x.cite(0, place, 1);
        }
        dueText("letters", Briefs.letters(x, 0), "0 25 26 29");
        x.drop(0);
        dueText("letters behind drop", Briefs.letters(x, 0), "-1 24 25 28");
        x.insert(0, 1);
        dueText("letters behind insert", Briefs.letters(x, 0), "-1 25 26 29");
    }

    // ---- binders, tabs

    @Sentence(of = "Exhibits",
            says = "each binder takes exhibits as long as their pages together are at most setting 0")
    void termsBindersTakePagesUpToTheSetting() {
        due("binders without exhibits", new BriefBuilder().count(2), 0);
        dueText("60 together", Briefs.numbers(Briefs.of(20, 40), 2), "0 0");
        dueText("61 together", Briefs.numbers(Briefs.of(20, 41), 2), "0 1");
        dueText("60 and 1", Briefs.numbers(Briefs.of(20, 40, 1), 2), "0 0 1");
        dueText("60 again", Briefs.numbers(Briefs.of(20, 41, 19, 1), 2), "0 1 1 2");
        BriefBuilder x = Briefs.full();
        x.set(90);
        due("binders of thirty in 90", x.count(2), 1);
        x.set(89);
        due("binders of thirty in 89", x.count(2), 2);
        due("the binder of the last in 89", x.exhibit(29, 2), 1);
        due("the binder of the last but one in 89", x.exhibit(28, 2), 0);
        x.set(10);
        due("binders of thirty in 10", x.count(2), 10);
    }

    @Sentence(of = "Exhibits", says = "but one exhibit at least.")
    void termsBindersTakeOneExhibitAtLeast() {
        BriefBuilder x = Briefs.of(60, 1, 9, 1, 11);
        x.set(10);
        dueText("binders", Briefs.numbers(x, 2), "0 1 1 2 3");
        due("binders", x.count(2), 4);
        BriefBuilder y = Briefs.of(11);
        y.set(10);
        due("the binder of one that is too large", y.exhibit(0, 2), 0);
        due("binders of one that is too large", y.count(2), 1);
        BriefBuilder z = Briefs.many(30, 60);
        z.set(10);
        due("the binder of the last of thirty", z.exhibit(29, 2), 29);
        due("binders of thirty that are too large", z.count(2), 30);
    }

    @Sentence(of = "Exhibits", says = "In each binder, exhibits have tabs, numbered from 0.")
    void termsTabsFrom0InEachBinder() {
        dueText("tabs", Briefs.numbers(Briefs.of(20, 40, 1, 60, 30, 30), 3), "0 1 0 0 0 1");
        BriefBuilder x = Briefs.full();
        x.set(200);
        due("the tab of the first of thirty", x.exhibit(0, 3), 0);
        due("the tab of the last of thirty", x.exhibit(29, 3), 29);
        x.set(10);
        due("the tab of the last in a binder of three", x.exhibit(29, 3), 2);
        due("the tab of the first in a binder of three", x.exhibit(27, 3), 0);
    }

    @Sentence(of = "Exhibits",
            says = "and 2 for each binder ahead of its own (so the first exhibit begins at the page 1).")
    void termsFirstPages() {
        dueText("first pages", Briefs.numbers(Briefs.of(60, 60, 5, 5), 4), "1 64 127 133");
        dueText("first pages in one binder", Briefs.numbers(Briefs.of(20, 40), 4), "1 22");
        dueText("first pages in two binders", Briefs.numbers(Briefs.of(20, 41), 4), "1 24");
        due("the first page of the last of thirty", Briefs.many(30, 60).exhibit(29, 4), 29 * 60 + 30 + 29 * 2);
        BriefBuilder x = Briefs.of(60, 60);
        x.drop(0);
        due("the first page of what is first then", x.exhibit(0, 4), 1);
    }

    // ---- paragraphs, citations

    @Sentence(of = "Exhibits", says = "There are 12 paragraphs, numbered from 0.")
    void termsTwelveParagraphsFrom0() {
        BriefBuilder x = Briefs.of(5);
        for (int paragraph = 0; paragraph < 12; paragraph++) {
            due("cite in " + paragraph, x.cite(paragraph, 0, 1), 1);
        }
        due("citations", x.count(3), 12);
        dueThrown("the paragraph -1", OUT, b -> b.paragraph(-1, 0), x);
        dueThrown("the paragraph 12", OUT, b -> b.paragraph(12, 0), x);
    }

    @Sentence(of = "Exhibits", says = "A paragraph has at most 6 citations, in an order")
    void termsAtMost6CitationsInAnOrder() {
        BriefBuilder x = Briefs.of(5, 5);
        dueText("an empty paragraph", Briefs.cited(x, 0), "");
        for (int n = 1; n <= 6; n++) {
            due("cite", x.cite(0, n % 2, 7 - n), n);
        }
        dueText("a full paragraph", Briefs.cited(x, 0), "1.6! 0.5 1.4 0.3 1.2 0.1");
        dueThrown("a seventh", STATE, b -> b.cite(0, 0, 1), x);
        dueText("a full paragraph still", Briefs.cited(x, 0), "1.6! 0.5 1.4 0.3 1.2 0.1");
        dueText("the paragraph behind it", Briefs.cited(x, 1), "");
        for (int paragraph = 1; paragraph < 12; paragraph++) {
            Briefs.citeTimes(x, 6, paragraph, 0, 1);
        }
        due("citations in all", x.count(3), 72);
    }

    @Sentence(of = "Exhibits", says = "each names an exhibit, by its number, and a page of it, 1 to 60.")
    void termsCitedPagesAre1To60() {
        BriefBuilder x = Briefs.of(60);
        x.cite(0, 0, 1);
        x.cite(0, 0, 60);
        dueText("cited", Briefs.cited(x, 0), "0.1 0.60");
        dueThrown("the page 0", ARGUMENT, b -> b.cite(0, 0, 0), x);
        dueThrown("the page 61", ARGUMENT, b -> b.cite(0, 0, 61), x);
        x.insert(0, 60);
        dueText("cited by number", Briefs.cited(x, 0), "0.1 0.60");
    }

    @Sentence(of = "Exhibits", says = "A citation is lost if its exhibit is gone, or has not so many pages.")
    void termsLostIfGoneOrBeyondThePages() {
        BriefBuilder x = Briefs.of(5);
        x.cite(0, 0, 1);
        x.cite(0, 0, 5);
        x.cite(0, 0, 6);
        x.cite(0, 0, 60);
        dueText("with 5 pages", Briefs.cited(x, 0), "0.1 0.5 0.6! 0.60!");
        x.pages(0, 6);
        dueText("with 6 pages", Briefs.cited(x, 0), "0.1 0.5 0.6 0.60!");
        x.pages(0, 59);
        dueText("with 59 pages", Briefs.cited(x, 0), "0.1 0.5 0.6 0.60!");
        x.pages(0, 60);
        dueText("with 60 pages", Briefs.cited(x, 0), "0.1 0.5 0.6 0.60");
        x.pages(0, 1);
        dueText("with 1 page", Briefs.cited(x, 0), "0.1 0.5! 0.6! 0.60!");
        x.drop(0);
        dueText("when it is gone", Briefs.cited(x, 0), "0.1! 0.5! 0.6! 0.60!");
    }

    @Sentence(of = "Exhibits", says = "A paragraph is stale if it was never printed")
    void termsStaleIfNeverPrinted() {
        BriefBuilder x = Briefs.of(5);
        due("an empty one that was never printed", x.paragraph(0, 2), 1);
        x.print(0);
        due("an empty one that was printed", x.paragraph(0, 2), 0);
        due("the one behind it", x.paragraph(1, 2), 1);
        x.undo();
        due("an empty one whose print is undone", x.paragraph(0, 2), 1);
        Briefs.citeTimes(x, 6, 11, 0, 1);
        due("a full one that was never printed", x.paragraph(11, 2), 1);
        x.print(11);
        due("a full one that was printed", x.paragraph(11, 2), 0);
    }

    @Sentence(of = "Exhibits", says = "how many citations it has")
    void termsStaleByHowManyCitations() {
        for (int printed = 0; printed <= 6; printed++) {
            BriefBuilder x = Briefs.citeTimes(Briefs.of(5), printed, 0, 0, 1);
            x.print(0);
            for (int then = 1; then <= 6; then++) {
                Briefs.type(x, "A.1,A.1,A.1,A.1,A.1,A.1".substring(0, 4 * then - 1));
                x.citeAll(0);
                due("stale with " + then + " of " + printed, x.paragraph(0, 2), then == printed ? 0 : 1);
            }
            x.drop(0);
            x.clean(0);
            due("stale with none of " + printed, x.paragraph(0, 2), printed == 0 ? 0 : 1);
        }
    }

    @Sentence(of = "Exhibits", says = "or, of any of them, the letter")
    void termsStaleByTheLetterOfAny() {
        for (int changed = 0; changed < 6; changed++) {
            BriefBuilder x = Briefs.full();
            for (int i = 0; i < 6; i++) {
                x.cite(0, i == changed ? 26 : 0, 1);
            }
            x.print(0);
            x.move(27, 28);
            due("stale by places behind", x.paragraph(0, 2), 0);
            x.move(26, 25);
            due("stale by Z for AA", x.paragraph(0, 2), 1);
            x.move(25, 26);
            due("stale by AA again", x.paragraph(0, 2), 0);
            x.move(26, 29);
            due("stale by AD for AA", x.paragraph(0, 2), 1);
        }
    }

    @Sentence(of = "Exhibits", says = "the page that is cited")
    void termsStaleByThePageOfAny() {
        String text = "A.1,A.1,A.1,A.1,A.1,A.1";
        for (int changed = 0; changed < 6; changed++) {
            BriefBuilder x = Briefs.type(Briefs.of(60), text);
            x.citeAll(0);
            x.print(0);
            Briefs.type(x, text.substring(0, 4 * changed) + "A.2" + text.substring(4 * changed + 3));
            x.citeAll(0);
            due("stale by 2 for 1 at " + changed, x.paragraph(0, 2), 1);
            Briefs.type(x, text.substring(0, 4 * changed) + "A.60" + text.substring(4 * changed + 3));
            x.citeAll(0);
            due("stale by 60 for 1 at " + changed, x.paragraph(0, 2), 1);
            Briefs.type(x, text);
            x.citeAll(0);
            due("stale by the same", x.paragraph(0, 2), 0);
        }
    }

    @Sentence(of = "Exhibits", says = "or whether it is lost.")
    void termsStaleByBeingLostOfAny() {
        for (int changed = 0; changed < 6; changed++) {
            BriefBuilder x = Briefs.of(30);
            for (int i = 0; i < 6; i++) {
                x.cite(0, 0, i == changed ? 30 : 1);
            }
            x.print(0);
            x.pages(0, 31);
            due("stale by more pages", x.paragraph(0, 2), 0);
            x.pages(0, 29);
            due("stale by one page less", x.paragraph(0, 2), 1);
            x.print(0);
            x.pages(0, 2);
            due("stale when it is lost still", x.paragraph(0, 2), 0);
            x.pages(0, 30);
            due("stale when it is lost no more", x.paragraph(0, 2), 1);
        }
    }

    @Sentence(of = "Exhibits", says = "of any of them, the letter, the page that is cited, or whether it is lost.")
    void termsStaleByPageAndLostAtOnce() {
        for (int page = 1; page <= 60; page++) {
            BriefBuilder x = Briefs.type(Briefs.of(30), "A." + page);
            x.citeAll(0);
            x.print(0);
            staleUnless(x, "A.", page, "30 pages as when " + page + " was printed");
            BriefBuilder y = Briefs.type(Briefs.of(30), "A." + page);
            y.citeAll(0);
            y.print(0);
            y.pages(0, 60);
            staleUnless(y, "A.", page <= 30 ? page : 0, "60 pages, and 30 when " + page + " was printed");
        }
    }

    @Sentence(of = "Exhibits", says = "or, of any of them, the letter, the page that is cited")
    void termsStaleByLetterAndPageAtOnce() {
        for (int page = 1; page <= 60; page++) {
            for (String letter : new String[] {"B.", "C."}) {
                BriefBuilder x = Briefs.type(Briefs.of(60, 60, 60), "A." + page);
                x.citeAll(0);
                x.print(0);
                staleUnless(x, letter, 0, "A." + page + " when it was printed");
            }
            BriefBuilder gone = Briefs.type(Briefs.of(30, 1), "A." + page);
            gone.citeAll(0);
            gone.drop(0);
            gone.print(0);
            staleUnless(gone, "A.", 0, "no letter when " + page + " was printed");
        }
    }

    /** Cites each page in turn: the paragraph 0 is stale, but for the page that was printed. */
    private void staleUnless(BriefBuilder x, String letter, int printed, String what) {
        for (int page = 1; page <= 60; page++) {
            Briefs.type(x, letter + page);
            x.citeAll(0);
            due("stale by " + letter + page + ", " + what, x.paragraph(0, 2), page == printed ? 0 : 1);
        }
    }

    @Sentence(of = "Exhibits", says = "if anything in it would be printed otherwise than it was the last time")
    void termsNotStaleByWhatIsNotPrinted() {
        BriefBuilder x = Briefs.of(5, 6, 60);
        x.cite(0, 1, 6);
        x.print(0);
        x.pages(0, 60);
        due("the page in the brief behind", x.citation(0, 0, 4), 60 + 1 + 1 + 2 + 5);
        due("stale by the page in the brief", x.paragraph(0, 2), 0);
        x.set(200);
        x.drop(2);
        due("stale by binders and exhibits behind", x.paragraph(0, 2), 0);
        x.move(0, 1);
        due("stale by its letter", x.paragraph(0, 2), 1);
        Briefs.type(x, "B.6");
        x.citeAll(0);
        due("stale by another exhibit with the letter", x.paragraph(0, 2), 0);
    }

    @Sentence(of = "Exhibits", says = "(The letter of a lost citation whose exhibit is gone is NONE.)")
    void termsNoLetterIfTheExhibitIsGone() {
        BriefBuilder x = Briefs.of(5, 5);
        x.cite(0, 0, 6);
        x.cite(0, 1, 5);
        dueText("letters of a lost one and a good one", Briefs.letters(x, 0), "0 1");
        x.drop(1);
        dueText("letters when the second is gone", Briefs.letters(x, 0), "0 -1");
        x.print(0);
        x.insert(1, 5);
        due("stale by another one at its place", x.paragraph(0, 2), 0);
        x.drop(0);
        dueText("letters when both are gone", Briefs.letters(x, 0), "-1 -1");
        due("stale by the letter of the first", x.paragraph(0, 2), 1);
    }
}
