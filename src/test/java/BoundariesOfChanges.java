import java.util.function.Supplier;

/** The boundary sentences of the document's terms: changes of exhibits, texts, the setting, undo and exceptions. */
final class BoundariesOfChanges extends BoundaryTests {
    BoundariesOfChanges(Check check) {
        super(check);
    }

    // ---- changes of exhibits

    @Sentence(of = "Changes of exhibits",
            says = "To insert an exhibit is to put it at a place; those from there on come one place later.")
    void termsInsertPutsOthersOnePlaceLater() {
        BriefBuilder x = new BriefBuilder();
        x.insert(0, 9);
        dueText("the first of all", Briefs.numbers(x, 0), "0");
        x.insert(0, 8);
        dueText("ahead of all", Briefs.numbers(x, 0), "1 0");
        x.insert(2, 7);
        dueText("behind all", Briefs.numbers(x, 0), "1 0 2");
        x.insert(1, 6);
        dueText("between", Briefs.numbers(x, 0), "1 3 0 2");
        dueText("pages", Briefs.numbers(x, 1), "8 6 9 7");
        BriefBuilder full = Briefs.many(29, 1);
        full.insert(0, 2);
        due("the last of thirty", full.exhibit(29, 0), 28);
        due("the first of thirty", full.exhibit(0, 0), 29);
    }

    @Sentence(of = "Changes of exhibits", says = "To move one is to take it out, and to put it at a place then.")
    void termsMoveTakesOutFirst() {
        BriefBuilder x = Briefs.of(1, 2, 3, 4);
        x.move(0, 3);
        dueText("the first to the end", Briefs.numbers(x, 0), "1 2 3 0");
        x.move(3, 0);
        dueText("the last to the front", Briefs.numbers(x, 0), "0 1 2 3");
        x.move(0, 1);
        dueText("one place later", Briefs.numbers(x, 0), "1 0 2 3");
        x.move(3, 2);
        dueText("one place earlier", Briefs.numbers(x, 0), "1 0 3 2");
        x.move(2, 2);
        dueText("where it is", Briefs.numbers(x, 0), "1 0 3 2");
        dueText("pages", Briefs.numbers(x, 1), "2 1 4 3");
    }

    @Sentence(of = "Changes of exhibits",
            says = "if that page is at most 60, and stay as they are (and are lost) otherwise; the next one is gone.")
    void termsJoinTakesCitationsUpToThePage60() {
        BriefBuilder x = Briefs.of(20, 10);
        x.cite(0, 1, 1);
        x.cite(0, 1, 10);
        x.cite(0, 1, 11);
        x.cite(0, 1, 40);
        x.cite(0, 1, 41);
        x.cite(0, 0, 21);
        x.join(0);
        dueText("cited", Briefs.cited(x, 0), "0.21 0.30 0.31! 0.60! 1.41! 0.21");
        dueText("letters", Briefs.letters(x, 0), "0 0 0 0 -1 0");
        dueText("what is left", Briefs.numbers(x, 0), "0");
        BriefBuilder y = Briefs.of(59, 1);
        y.cite(0, 1, 1);
        y.cite(0, 1, 2);
        y.join(0);
        dueText("cited behind 59 pages", Briefs.cited(y, 0), "0.60 1.2!");
    }

    @Sentence(of = "Changes of exhibits",
            says = "To join an exhibit with the next one is to put the pages of the next one")
    void termsJoinPutsThePagesOfTheNextOneBehind() {
        BriefBuilder x = Briefs.of(1, 1, 58, 60);
        x.join(0);
        dueText("pages of the first two", Briefs.numbers(x, 1), "2 58 60");
        dueText("numbers of the first two", Briefs.numbers(x, 0), "0 2 3");
        x.join(0);
        dueText("60 pages", Briefs.numbers(x, 1), "60 60");
        dueText("numbers", Briefs.numbers(x, 0), "0 3");
    }

    @Sentence(of = "Changes of exhibits", says = "is to make a new exhibit of the pages behind it, which comes next")
    void termsSplitMakesTheNextOne() {
        BriefBuilder x = Briefs.of(2, 60);
        x.split(0, 1);
        dueText("the only page of two", Briefs.numbers(x, 1), "1 1 60");
        x.split(2, 59);
        dueText("the last page of 60", Briefs.numbers(x, 1), "1 1 59 1");
        x.split(2, 1);
        dueText("the first page of 59", Briefs.numbers(x, 1), "1 1 1 58 1");
        dueText("numbers", Briefs.numbers(x, 0), "0 2 1 4 3");
    }

    @Sentence(of = "Changes of exhibits",
            says = "name the new one then, with so many pages less (lost ones, too).")
    void termsSplitTakesCitationsOfGreaterPages() {
        BriefBuilder x = Briefs.of(20, 20);
        x.cite(0, 0, 1);
        x.cite(0, 0, 8);
        x.cite(0, 0, 9);
        x.cite(0, 0, 20);
        x.cite(0, 0, 21);
        x.cite(0, 0, 60);
        x.cite(1, 1, 9);
        x.split(0, 8);
        dueText("cited", Briefs.cited(x, 0), "0.1 0.8 2.1 2.12 2.13! 2.52!");
        dueText("letters", Briefs.letters(x, 0), "0 0 1 1 1 1");
        dueText("citations of others", Briefs.cited(x, 1), "1.9");
    }

    /** The citations of B.15 to B.20 in each paragraph. */
    private static BriefBuilder fullParagraphs() {
        BriefBuilder x = Briefs.of(10, 20);
        for (int paragraph = 0; paragraph < 12; paragraph++) {
            for (int n = 0; n < 6; n++) {
                x.cite(paragraph, 1, 15 + n);
            }
        }
        return x;
    }

    @Sentence(of = "Changes of exhibits",
            says = "citations of the next one name the first one then, with its pages added")
    void termsJoinTakesCitationsOfFullParagraphs() {
        BriefBuilder x = fullParagraphs();
        x.join(0);
        for (int paragraph = 0; paragraph < 12; paragraph++) {
            dueText("joined in " + paragraph, Briefs.cited(x, paragraph), "0.25 0.26 0.27 0.28 0.29 0.30");
        }
    }

    @Sentence(of = "Changes of exhibits", says = "citations of it with a greater page name the new one then")
    void termsSplitTakesCitationsOfFullParagraphs() {
        BriefBuilder x = fullParagraphs();
        x.split(1, 14);
        for (int paragraph = 0; paragraph < 12; paragraph++) {
            dueText("split in " + paragraph, Briefs.cited(x, paragraph), "2.1 2.2 2.3 2.4 2.5 2.6");
        }
    }

    // ---- input text

    @Sentence(of = "Input text", says = "The buffer has at most 60 characters.")
    void termsAtMost60Characters() {
        BriefBuilder x = new BriefBuilder();
        due("characters at first", x.clearBuffer(), 0);
        for (int n = 1; n <= 60; n++) {
            due("append", x.append('~'), n);
        }
        dueThrown("append of the 61st", STATE, b -> b.append('~'), x);
        due("characters at last", x.clearBuffer(), 60);
        due("append behind it", x.append('~'), 1);
    }

    @Sentence(of = "Input text", says = "Citations as a text are 1 to 6 citations with \",\" between them")
    void termsTextsAre1To6Citations() {
        String six = "A.1,A.2,A.3,A.4,A.5,A.5";
        for (int n = 1; n <= 6; n++) {
            BriefBuilder x = Briefs.type(Briefs.of(5), six.substring(0, 4 * n - 1));
            due("firstError of " + n, x.firstError(), 4 * n - 1);
            x.citeAll(0);
            due("citations of " + n, x.paragraph(0, 0), n);
        }
        BriefBuilder none = Briefs.of(5);
        due("firstError of none", none.firstError(), 0);
        dueThrown("citeAll of none", ARGUMENT, b -> b.citeAll(0), none);
        BriefBuilder seven = Briefs.type(Briefs.of(5), six + ",A.1");
        due("firstError of seven", seven.firstError(), 23);
        dueThrown("citeAll of seven", ARGUMENT, b -> b.citeAll(0), seven);
        BriefBuilder open = Briefs.type(Briefs.of(5), "A.1,");
        due("firstError of one and a comma", open.firstError(), 4);
        dueThrown("citeAll of one and a comma", ARGUMENT, b -> b.citeAll(0), open);
    }

    @Sentence(of = "Input text", says = "the letter of an exhibit in the order of now (whether there is one or not)")
    void termsTextsNameLettersOfNow() {
        BriefBuilder x = Briefs.typed("AD.60,A.1");
        due("firstError without exhibits", x.firstError(), 9);
        dueThrown("citeAll without exhibits", STATE, b -> b.citeAll(0), x);
        BriefBuilder y = Briefs.type(Briefs.of(5, 5), "B.1");
        y.insert(0, 5);
        y.citeAll(0);
        dueText("cited by the order of now", Briefs.cited(y, 0), "0.1");
        Briefs.type(y, "C.1");
        y.drop(0);
        due("firstError of a letter that has none", y.firstError(), 3);
        dueThrown("citeAll of a letter that has none", STATE, b -> b.citeAll(0), y);
    }

    @Sentence(of = "Input text", says = "\".\" and a page, 1 to 60, without a leading zero.")
    void termsPagesInTextsAre1To60WithoutALeadingZero() {
        for (int page = 1; page <= 60; page++) {
            BriefBuilder x = Briefs.type(Briefs.of(60), "A." + page);
            due("firstError of the page " + page, x.firstError(), page < 10 ? 3 : 4);
            x.citeAll(0);
            due("the page", x.citation(0, 0, 2), page);
        }
        String[] wrong = {"0", "00", "01", "09", "060", "61", "69", "70", "99", "100", "600", "601"};
        int[] errors = {2, 2, 2, 2, 2, 3, 3, 3, 3, 4, 4, 4};
        for (int i = 0; i < wrong.length; i++) {
            BriefBuilder x = Briefs.type(Briefs.of(60), "A." + wrong[i]);
            due("firstError of the page " + wrong[i], x.firstError(), errors[i]);
            dueThrown("citeAll of the page " + wrong[i], ARGUMENT, b -> b.citeAll(0), x);
        }
    }

    @Sentence(of = "Input text", says = "Letters are \"A\" to \"Z\" and \"AA\" to \"AD\".")
    void termsLettersInTexts() {
        for (String letter : Briefs.LETTERS) {
            due("firstError of " + letter, Briefs.typed(letter + ".1").firstError(), letter.length() + 2);
        }
        String[] wrong = {"@", "[", "a", "AE", "A@", "AZ", "Aa", "BA", "ZA", "ZZ", "AAA", "ADA", ".", "1", ","};
        int[] errors = {0, 0, 0, 1, 1, 1, 1, 1, 1, 1, 2, 2, 0, 0, 0};
        for (int i = 0; i < wrong.length; i++) {
            due("firstError of " + wrong[i], Briefs.typed(wrong[i] + ".1").firstError(), errors[i]);
        }
    }

    @Sentence(of = "Input text", says = "a character is a syntax error if no citations as a text begin with")
    void termsWhatMayFollow() {
        String letters = "ABCDEFGHIJKLMNOPQRSTUVWXYZ";
        follows("", letters);
        follows("A", ".ABCD");
        follows("B", ".");
        follows("Z", ".");
        follows("AA", ".");
        follows("AD", ".");
        follows("A.", "123456789");
        follows("AB.", "123456789");
        follows("A.1", "0123456789,");
        follows("A.5", "0123456789,");
        follows("A.6", "0,");
        follows("A.7", ",");
        follows("A.9", ",");
        follows("A.10", ",");
        follows("A.59", ",");
        follows("A.60", ",");
        follows("A.60,", letters);
        follows("AD.60,AD.60,AD.60,AD.60,AD.60,", letters);
        follows("AD.60,AD.60,AD.60,AD.60,AD.60,A", ".ABCD");
        follows("AD.60,AD.60,AD.60,AD.60,AD.60,AD.", "123456789");
        follows("AD.60,AD.60,AD.60,AD.60,AD.60,AD.5", "0123456789");
        follows("AD.60,AD.60,AD.60,AD.60,AD.60,AD.6", "0");
        follows("AD.60,AD.60,AD.60,AD.60,AD.60,AD.7", "");
        follows("AD.60,AD.60,AD.60,AD.60,AD.60,AD.60", "");
        follows("A.0", "");
        follows("x", "");
    }

    /** Each of the characters 33 to 126 behind a text: it is an error if it is not one of those that may follow. */
    private void follows(String text, String mayFollow) {
        BriefBuilder before = Briefs.typed(text);
        boolean wrong = before.firstError() < text.length();
        for (char c = 33; c <= 126; c++) {
            int error = wrong ? before.firstError() : text.length() + (mayFollow.indexOf(c) >= 0 ? 1 : 0);
            due("firstError of " + text + c, Briefs.typed(text + c).firstError(), error);
        }
    }

    // ---- setting, undo

    @Sentence(of = "Input text", says = "Setting 0: the pages of a binder, 10 to 200, at first 60.")
    void termsTheSettingIs10To200AtFirst60() {
        BriefBuilder x = new BriefBuilder();
        due("the setting at first", x.count(7), 60);
        x.set(10);
        due("the least", x.count(7), 10);
        x.set(200);
        due("the most", x.count(7), 200);
        dueThrown("set(9)", ARGUMENT, b -> b.set(9), x);
        dueThrown("set(201)", ARGUMENT, b -> b.set(201), x);
        due("the setting behind refused ones", x.count(7), 200);
    }

    @Sentence(of = "Input text",
            says = "does not throw an exception saves the state from before it (also if it changes nothing)")
    void termsSavedAlsoIfNothingIsChanged() {
        Supplier<BriefBuilder> setup = () -> {
            BriefBuilder x = Briefs.of(5);
            x.cite(0, 0, 5);
            x.print(0);
            return x;
        };
        undoable(setup, "move to where it is", x -> x.move(0, 0));
        undoable(setup, "the same pages", x -> x.pages(0, 5));
        undoable(setup, "clean of none", x -> x.clean(0));
        undoable(setup, "print of what is not stale", x -> x.print(0));
        undoable(setup, "the same setting", x -> x.set(x.count(7)));
        undoable(setup, "citeAll of the same", x -> Briefs.type(x, "A.5").citeAll(0));
    }

    @Sentence(of = "Input text", says = "all, but the buffer and the saved states.")
    void termsSavedIsAllButTheBuffer() {
        BriefBuilder x = Briefs.of(5);
        x.cite(0, 0, 1);
        x.print(0);
        x.set(10);
        Briefs.type(x, "A.5");
        due("undo with a buffer", x.undo(), 3);
        due("characters behind undo", x.append(','), 4);
        x.clearBuffer();
        due("undo with an empty buffer", x.undo(), 2);
        due("characters behind the next undo", x.clearBuffer(), 0);
        Briefs.type(x, "A.5");
        x.citeAll(0);
        Briefs.type(x, "Z");
        due("undo of citeAll", x.undo(), 2);
        due("characters behind undo of citeAll", x.clearBuffer(), 1);
        dueText("citations behind undo of citeAll", Briefs.cited(x, 0), "0.1");
        x.insert(0, 5);
        x.undo();
        due("the number that was undone", x.insert(0, 5), 1);
    }

    @Sentence(of = "Input text", says = "At most 6 states are saved; the oldest one is dropped first.")
    void termsAtMost6SavedStates() {
        for (int calls = 0; calls <= 14; calls++) {
            BriefBuilder x = new BriefBuilder();
            for (int n = 0; n < calls; n++) {
                x.set(10 + n);
            }
            int saved = Math.min(calls, 6);
            due("saved states after " + calls, x.count(8), saved);
            for (int left = saved - 1; left >= 0; left--) {
                due("undo after " + calls, x.undo(), left);
                int before = calls - (saved - left);
                due("the setting after " + calls, x.count(7), before == 0 ? 60 : 9 + before);
            }
            dueThrown("undo to the oldest after " + calls, STATE, BriefBuilder::undo, x);
        }
    }

    // ---- exceptions

    @Sentence(of = "Exceptions", says = "A call that throws an exception changes nothing.")
    void termsRefusedCallsInARowChangeNothing() {
        Supplier<BriefBuilder> setup = () -> Briefs.crammed(fullOfAll());
        Supplier<BriefBuilder> behindRefused = () -> {
            BriefBuilder x = setup.get();
            refusedInARow(x);
            refusedInARow(x);
            return x;
        };
        dueSeen("what is told behind refused calls", Briefs.told(behindRefused), Briefs.told(setup));
    }

    /** Thirty exhibits, a full paragraph with a lost citation, one that is printed and stale, and a text. */
    private static BriefBuilder fullOfAll() {
        BriefBuilder x = Briefs.full();
        x.pages(29, 58);
        Briefs.citeTimes(x, 5, 0, 1, 3);
        x.cite(0, 1, 4);
        x.cite(1, 2, 1);
        Briefs.printAll(x);
        x.move(2, 3);
        return Briefs.type(x, "A.1,AE.1");
    }

    private void refusedInARow(BriefBuilder x) {
        dueThrown("insert", OUT, b -> b.insert(31, 1), x);
        dueThrown("insert", ARGUMENT, b -> b.insert(0, 61), x);
        dueThrown("insert", STATE, b -> b.insert(0, 1), x);
        dueThrown("move", OUT, b -> b.move(0, 30), x);
        dueThrown("drop", OUT, b -> b.drop(30), x);
        dueThrown("pages", OUT, b -> b.pages(30, 1), x);
        dueThrown("pages", ARGUMENT, b -> b.pages(0, 61), x);
        dueThrown("join", OUT, b -> b.join(29), x);
        dueThrown("join", STATE, b -> b.join(28), x);
        dueThrown("split", OUT, b -> b.split(30, 1), x);
        dueThrown("split", ARGUMENT, b -> b.split(0, 3), x);
        dueThrown("split", STATE, b -> b.split(0, 1), x);
        dueThrown("cite", OUT, b -> b.cite(0, 30, 1), x);
        dueThrown("cite", ARGUMENT, b -> b.cite(0, 0, 61), x);
        dueThrown("cite", STATE, b -> b.cite(0, 0, 1), x);
        dueThrown("clean", OUT, b -> b.clean(12), x);
        dueThrown("print", OUT, b -> b.print(12), x);
        dueThrown("set", ARGUMENT, b -> b.set(201), x);
        dueThrown("append", ARGUMENT, b -> b.append(32), x);
        dueThrown("citeAll", OUT, b -> b.citeAll(12), x);
        dueThrown("citeAll", ARGUMENT, b -> b.citeAll(0), x);
        dueThrown("exhibit", ARGUMENT, b -> b.exhibit(-1, 0), x);
        dueThrown("citation", OUT, b -> b.citation(12, 0, 0), x);
        dueThrown("citation", ARGUMENT, b -> b.citation(0, -1, 0), x);
        dueThrown("paragraph", OUT, b -> b.paragraph(12, 0), x);
        dueThrown("paragraph", ARGUMENT, b -> b.paragraph(0, 4), x);
        dueThrown("table", OUT, b -> b.table(30), x);
        dueThrown("count", ARGUMENT, b -> b.count(9), x);
        dueThrown("ifInserted", OUT, b -> b.ifInserted(31, 1, 0), x);
        dueThrown("ifInserted", ARGUMENT, b -> b.ifInserted(0, 61, 0), x);
        dueThrown("ifDropped", OUT, b -> b.ifDropped(30, 0), x);
        dueThrown("ifDropped", ARGUMENT, b -> b.ifDropped(0, 2), x);
        dueThrown("bestMove", OUT, b -> b.bestMove(30), x);
        dueThrown("leastPages", ARGUMENT, b -> b.leastPages(31), x);
    }

    @Sentence(of = "Exceptions",
            says = "If several exceptions apply, the one that is named first in the throws clause is thrown.")
    void termsTheFirstNamedIsThrown() {
        BriefBuilder x = Briefs.full();
        dueThrown("all three of insert", OUT, b -> b.insert(31, 61), x);
        dueThrown("the last two of insert", ARGUMENT, b -> b.insert(30, 61), x);
        dueThrown("the last of insert", STATE, b -> b.insert(30, 60), x);
    }

    @Sentence(of = "Exceptions", says = "`NONE = -1`: There is nothing to return.")
    void termsNoneIsMinus1() {
        due("NONE", BriefBuilder.NONE, -1);
        due("an exhibit that is not there", new BriefBuilder().exhibit(0, 0), -1);
        due("a citation that is not there", new BriefBuilder().citation(0, 0, 0), -1);
        due("a print that was not", new BriefBuilder().paragraph(0, 3), -1);
        due("a setting that there is not", Briefs.many(4, 51).leastPages(1), -1);
    }
}
