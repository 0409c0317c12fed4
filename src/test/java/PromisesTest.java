/** Each promise by hand, numbered as in the document: ordinary inputs, edges, and wrong inputs. */
public final class PromisesTest {
    private static final Class<?> OUT = IndexOutOfBoundsException.class;
    private static final Class<?> ARGUMENT = IllegalArgumentException.class;
    private static final Class<?> STATE = IllegalStateException.class;
    private static final int LEAST = Integer.MIN_VALUE;
    private static final int MOST = Integer.MAX_VALUE;

    private static final Check CHECK = new Check("PromisesTest");

    public static void main(String[] args) {
        promise1NewObject();
        promise2Insert();
        promise3Move();
        promise4Drop();
        promise5Pages();
        promise6Join();
        promise7Split();
        promise8Cite();
        promise9Clean();
        promise10Print();
        promise10StaleByEachThing();
        fullParagraphs();
        promise11Set();
        promise12Append();
        promise13ClearBuffer();
        promise14FirstError();
        promise15CiteAll();
        promise16Undo();
        promise17Exhibit();
        promise18Citation();
        promise19Paragraph();
        promise20Table();
        promise21Count();
        promise22IfInserted();
        promise23IfDropped();
        promise24BestMove();
        promise25LeastPages();
        promise26CitedShare();
        promise27Digest();
        CHECK.close();
    }

    private static void due(String what, long got, long want) {
        CHECK.due(what, got, want);
    }

    private static void order(BriefBuilder x, String what, String want) {
        CHECK.dueText("order after " + what, Briefs.numbers(x, 0), want);
    }

    private static void promise1NewObject() {
        BriefBuilder x = new BriefBuilder();
        int[] counts = {0, 0, 0, 0, 0, 12, 0, 60, 0};
        for (int what = 0; what < counts.length; what++) {
            due("new: count(" + what + ")", x.count(what), counts[what]);
        }
        due("new: firstError()", x.firstError(), 0);
        due("new: clearBuffer()", x.clearBuffer(), 0);
        due("new: exhibit(0, 0)", x.exhibit(0, 0), -1);
        for (int paragraph = 0; paragraph < 12; paragraph++) {
            due("new: citations", x.paragraph(paragraph, 0), 0);
            due("new: lost", x.paragraph(paragraph, 1), 0);
            due("new: stale", x.paragraph(paragraph, 2), 1);
            due("new: printed", x.paragraph(paragraph, 3), -1);
        }
    }

    private static void promise2Insert() {
        BriefBuilder x = new BriefBuilder();
        due("insert", x.insert(0, 1), 0);
        due("insert behind", x.insert(1, 60), 1);
        due("insert ahead", x.insert(0, 7), 2);
        due("insert between", x.insert(1, 8), 3);
        order(x, "insert", "2 3 0 1");
        CHECK.dueText("pages after insert", Briefs.numbers(x, 1), "7 8 1 60");
        x.drop(0);
        due("numbers are not used again", x.insert(0, 1), 4);
        CHECK.refused(x, "insert(-1, 5)", OUT, () -> x.insert(-1, 5));
        CHECK.refused(x, "insert(5, 5)", OUT, () -> x.insert(5, 5));
        CHECK.refused(x, "insert(least, 0)", OUT, () -> x.insert(LEAST, 0));
        CHECK.refused(x, "insert(most, 61)", OUT, () -> x.insert(MOST, 61));
        CHECK.refused(x, "insert(4, 0)", ARGUMENT, () -> x.insert(4, 0));
        CHECK.refused(x, "insert(0, 61)", ARGUMENT, () -> x.insert(0, 61));
        CHECK.refused(x, "insert(0, least)", ARGUMENT, () -> x.insert(0, LEAST));
        due("refused insert takes no number", x.insert(0, 1), 5);
        BriefBuilder full = Briefs.full();
        due("thirty exhibits", full.count(0), 30);
        CHECK.refused(full, "insert of the 31st", STATE, () -> full.insert(30, 60));
        CHECK.refused(full, "insert of the 31st with 61", ARGUMENT, () -> full.insert(30, 61));
        CHECK.refused(full, "insert of the 31st at 31", OUT, () -> full.insert(31, 61));
        full.drop(0);
        due("insert into 29", full.insert(29, 1), 30);
    }

    private static void promise3Move() {
        BriefBuilder x = Briefs.of(1, 2, 3, 4);
        due("move(0, 2)", x.move(0, 2), 0);
        order(x, "move(0, 2)", "1 2 0 3");
        CHECK.dueText("pages after move(0, 2)", Briefs.numbers(x, 1), "2 3 1 4");
        due("move(3, 0)", x.move(3, 0), 3);
        order(x, "move(3, 0)", "3 1 2 0");
        due("move(0, 3)", x.move(0, 3), 3);
        order(x, "move(0, 3)", "1 2 0 3");
        due("move(1, 1)", x.move(1, 1), 2);
        order(x, "move(1, 1)", "1 2 0 3");
        CHECK.refused(x, "move(4, 0)", OUT, () -> x.move(4, 0));
        CHECK.refused(x, "move(0, 4)", OUT, () -> x.move(0, 4));
        CHECK.refused(x, "move(-1, 0)", OUT, () -> x.move(-1, 0));
        CHECK.refused(x, "move(0, -1)", OUT, () -> x.move(0, -1));
        CHECK.refused(x, "move(most, least)", OUT, () -> x.move(MOST, LEAST));
        BriefBuilder empty = new BriefBuilder();
        CHECK.refused(empty, "move without exhibits", OUT, () -> empty.move(0, 0));
        BriefBuilder full = Briefs.full();
        due("move(29, 0) of 30", full.move(29, 0), 29);
        due("move(0, 29) of 30", full.move(0, 29), 29);
        due("the last is back", full.exhibit(29, 0), 29);
    }

    private static void promise4Drop() {
        BriefBuilder x = Briefs.of(5, 6, 7);
        x.cite(0, 1, 6);
        x.cite(0, 1, 7);
        x.cite(11, 1, 1);
        x.cite(11, 0, 1);
        due("drop tells those that were not lost", x.drop(1), 2);
        order(x, "drop", "0 2");
        CHECK.dueText("citations after drop", Briefs.cited(x, 0), "1.6! 1.7!");
        CHECK.dueText("others after drop", Briefs.cited(x, 11), "1.1! 0.1");
        due("drop of one that nothing cites", x.drop(1), 0);
        x.undo();
        x.cite(5, 1, 1);
        due("drop of the last in the order", x.drop(1), 1);
        due("the last in the order has no letter", x.citation(5, 0, 1), -1);
        CHECK.refused(x, "drop(1)", OUT, () -> x.drop(1));
        CHECK.refused(x, "drop(-1)", OUT, () -> x.drop(-1));
        CHECK.refused(x, "drop(most)", OUT, () -> x.drop(MOST));
        due("drop of the last", x.drop(0), 1);
        CHECK.refused(x, "drop(0) of none", OUT, () -> x.drop(0));
    }

    private static void promise5Pages() {
        BriefBuilder x = Briefs.of(5, 6);
        x.cite(0, 1, 6);
        due("pages returns the previous", x.pages(1, 5), 6);
        CHECK.dueText("citation beyond the pages", Briefs.cited(x, 0), "1.6!");
        due("pages again", x.pages(1, 60), 5);
        CHECK.dueText("citation within the pages", Briefs.cited(x, 0), "1.6");
        due("pages to 1", x.pages(0, 1), 5);
        due("pages as they are", x.pages(0, 1), 1);
        CHECK.refused(x, "pages(2, 0)", OUT, () -> x.pages(2, 0));
        CHECK.refused(x, "pages(-1, 61)", OUT, () -> x.pages(-1, 61));
        CHECK.refused(x, "pages(0, 0)", ARGUMENT, () -> x.pages(0, 0));
        CHECK.refused(x, "pages(0, 61)", ARGUMENT, () -> x.pages(0, 61));
        CHECK.refused(x, "pages(0, least)", ARGUMENT, () -> x.pages(0, LEAST));
    }

    private static void promise6Join() {
        BriefBuilder x = Briefs.of(9, 20, 10, 5);
        x.cite(0, 2, 10);
        x.cite(0, 2, 11);
        x.cite(0, 2, 40);
        x.cite(0, 2, 41);
        x.cite(0, 1, 21);
        x.cite(0, 3, 1);
        due("join", x.join(1), 30);
        order(x, "join", "0 1 3");
        CHECK.dueText("citations after join", Briefs.cited(x, 0), "1.30 1.31! 1.60! 2.41! 1.21 3.1");
        CHECK.dueText("pages after join", Briefs.numbers(x, 1), "9 30 5");
        CHECK.refused(x, "join of the last", OUT, () -> x.join(2));
        CHECK.refused(x, "join(3)", OUT, () -> x.join(3));
        CHECK.refused(x, "join(-1)", OUT, () -> x.join(-1));
        CHECK.refused(x, "join(most)", OUT, () -> x.join(MOST));
        CHECK.refused(x, "join(least)", OUT, () -> x.join(LEAST));
        BriefBuilder y = Briefs.of(30, 30, 1, 60);
        due("join to 60", y.join(0), 60);
        CHECK.refused(y, "join to 61", STATE, () -> y.join(0));
        CHECK.refused(y, "join(1) to 61", STATE, () -> y.join(1));
        CHECK.refused(y, "join of the last with 60", OUT, () -> y.join(2));
        BriefBuilder empty = new BriefBuilder();
        CHECK.refused(empty, "join without exhibits", OUT, () -> empty.join(0));
        BriefBuilder full = Briefs.full();
        due("join at the end of 30", full.join(28), 6);
        due("29 are left", full.count(0), 29);
    }

    private static void promise7Split() {
        BriefBuilder x = Briefs.of(9, 20, 5);
        x.cite(0, 1, 8);
        x.cite(0, 1, 9);
        x.cite(0, 1, 20);
        x.cite(0, 1, 21);
        x.cite(0, 0, 9);
        x.cite(0, 1, 60);
        due("split", x.split(1, 8), 3);
        order(x, "split", "0 1 3 2");
        CHECK.dueText("pages after split", Briefs.numbers(x, 1), "9 8 12 5");
        CHECK.dueText("citations after split", Briefs.cited(x, 0), "1.8 3.1 3.12 3.13! 0.9 3.52!");
        due("the letter after split", x.citation(0, 1, 1), 2);
        due("the page in the brief after split", x.citation(0, 1, 4), 20);
        due("binders after split", x.count(2), 1);
        due("split behind the last but one", x.split(0, 8), 4);
        due("the letter after the second split", x.citation(0, 1, 1), 3);
        CHECK.dueText("pages after the second split", Briefs.numbers(x, 1), "8 1 8 12 5");
        CHECK.refused(x, "split of one page", ARGUMENT, () -> x.split(1, 1));
        CHECK.refused(x, "split(0, 0)", ARGUMENT, () -> x.split(0, 0));
        CHECK.refused(x, "split(0, 8)", ARGUMENT, () -> x.split(0, 8));
        CHECK.refused(x, "split(0, most)", ARGUMENT, () -> x.split(0, MOST));
        CHECK.refused(x, "split(0, least)", ARGUMENT, () -> x.split(0, LEAST));
        CHECK.refused(x, "split(5, 0)", OUT, () -> x.split(5, 0));
        CHECK.refused(x, "split(-1, 0)", OUT, () -> x.split(-1, 0));
        BriefBuilder full = Briefs.full();
        CHECK.refused(full, "split of 30", STATE, () -> full.split(29, 1));
        CHECK.refused(full, "split of 30 at a wrong page", ARGUMENT, () -> full.split(29, 3));
        CHECK.refused(full, "split of 30 at a wrong place", OUT, () -> full.split(30, 3));
        full.drop(0);
        due("split of the last of 29", full.split(28, 2), 30);
        due("pages of the thirtieth", full.exhibit(29, 1), 1);
    }

    private static void promise8Cite() {
        BriefBuilder x = Briefs.of(5, 6);
        due("cite", x.cite(11, 1, 6), 1);
        due("cite a lost one", x.cite(11, 1, 60), 2);
        due("cite another paragraph", x.cite(0, 0, 1), 1);
        for (int n = 3; n <= 6; n++) {
            due("cite the same", x.cite(11, 0, 1), n);
        }
        CHECK.dueText("cited", Briefs.cited(x, 11), "1.6 1.60! 0.1 0.1 0.1 0.1");
        CHECK.refused(x, "a seventh", STATE, () -> x.cite(11, 0, 1));
        CHECK.refused(x, "a seventh of the page 0", ARGUMENT, () -> x.cite(11, 0, 0));
        CHECK.refused(x, "a seventh of the place 2", OUT, () -> x.cite(11, 2, 0));
        CHECK.refused(x, "cite(12, 0, 1)", OUT, () -> x.cite(12, 0, 1));
        CHECK.refused(x, "cite(-1, 0, 0)", OUT, () -> x.cite(-1, 0, 0));
        CHECK.refused(x, "cite(0, -1, 0)", OUT, () -> x.cite(0, -1, 0));
        CHECK.refused(x, "cite(0, 0, 61)", ARGUMENT, () -> x.cite(0, 0, 61));
        CHECK.refused(x, "cite(most, most, most)", OUT, () -> x.cite(MOST, MOST, MOST));
    }

    private static void promise9Clean() {
        BriefBuilder x = Briefs.of(5, 6);
        x.cite(3, 0, 6);
        x.cite(3, 0, 5);
        x.cite(3, 1, 7);
        x.cite(3, 1, 6);
        x.cite(4, 1, 7);
        due("clean", x.clean(3), 2);
        CHECK.dueText("clean keeps the order", Briefs.cited(x, 3), "0.5 1.6");
        CHECK.dueText("clean leaves others", Briefs.cited(x, 4), "1.7!");
        due("clean of none", x.clean(3), 0);
        x.drop(0);
        due("clean of one that is gone", x.clean(3), 1);
        CHECK.dueText("clean again", Briefs.cited(x, 3), "1.6");
        due("clean of an empty one", x.clean(11), 0);
        CHECK.refused(x, "clean(12)", OUT, () -> x.clean(12));
        CHECK.refused(x, "clean(-1)", OUT, () -> x.clean(-1));
        CHECK.refused(x, "clean(most)", OUT, () -> x.clean(MOST));
    }

    private static void promise10Print() {
        BriefBuilder x = Briefs.of(5);
        due("first print of an empty one", x.print(11), 1);
        due("printed again", x.print(11), 0);
        due("not stale", x.paragraph(11, 2), 0);
        due("printed with none", x.paragraph(11, 3), 0);
        x.cite(11, 0, 1);
        due("stale by a citation", x.print(11), 1);
        due("printed with one", x.paragraph(11, 3), 1);
        due("others are stale", x.count(5), 11);
        CHECK.refused(x, "print(12)", OUT, () -> x.print(12));
        CHECK.refused(x, "print(-1)", OUT, () -> x.print(-1));
        CHECK.refused(x, "print(least)", OUT, () -> x.print(LEAST));
    }

    /** Stale by the letter, the page, being lost, or how many; not by the exhibit's number or the brief's pages. */
    private static void promise10StaleByEachThing() {
        BriefBuilder x = Briefs.of(20, 5, 5);
        x.cite(0, 1, 5);
        x.print(0);
        x.pages(0, 3);
        due("not stale by pages in the brief", x.paragraph(0, 2), 0);
        x.set(10);
        due("not stale by binders", x.paragraph(0, 2), 0);
        x.pages(1, 4);
        due("stale by being lost", x.paragraph(0, 2), 1);
        x.pages(1, 9);
        due("not stale any more", x.paragraph(0, 2), 0);
        x.move(1, 2);
        due("stale by the letter", x.paragraph(0, 2), 1);
        x.move(2, 1);
        due("not stale with the letter as it was", x.paragraph(0, 2), 0);
        Briefs.type(x, "B.6");
        x.citeAll(0);
        due("stale by the page", x.paragraph(0, 2), 1);
        Briefs.type(x, "B.5,A.1");
        x.citeAll(0);
        due("stale by how many", x.paragraph(0, 2), 1);
        x.move(1, 2);
        Briefs.type(x, "B.5");
        x.citeAll(0);
        due("not stale by another exhibit with the same letter", x.paragraph(0, 2), 0);
        x.drop(1);
        due("stale by the letter that is gone", x.paragraph(0, 2), 1);
        x.print(0);
        due("printed as lost", x.paragraph(0, 2), 0);
        x.insert(0, 1);
        due("a gone one has no letter that changes", x.paragraph(0, 2), 0);
        x.clean(0);
        due("stale by none", x.paragraph(0, 2), 1);
        Briefs.type(x, "A.1,B.1");
        x.citeAll(0);
        x.print(0);
        Briefs.type(x, "B.1,A.1");
        x.citeAll(0);
        due("stale by their order", x.paragraph(0, 2), 1);
    }

    /** What is done to a full paragraph leaves the next one alone. */
    private static void fullParagraphs() {
        BriefBuilder x = Briefs.of(5, 20);
        for (int paragraph = 0; paragraph < 12; paragraph++) {
            for (int n = 0; n < 6; n++) {
                x.cite(paragraph, 1, 8 + n);
            }
            x.print(paragraph);
        }
        due("stale paragraphs when all are full", x.count(5), 0);
        x.move(0, 1);
        due("stale paragraphs after a move", x.count(5), 12);
        x.print(0);
        due("stale paragraphs after a print", x.count(5), 11);
        x.print(11);
        due("stale paragraphs after two prints", x.count(5), 10);
        x.move(1, 0);
        x.split(1, 3);
        CHECK.dueText("a full paragraph after split", Briefs.cited(x, 0), "2.5 2.6 2.7 2.8 2.9 2.10");
        CHECK.dueText("the next one after split", Briefs.cited(x, 1), "2.5 2.6 2.7 2.8 2.9 2.10");
        CHECK.dueText("the last one after split", Briefs.cited(x, 11), "2.5 2.6 2.7 2.8 2.9 2.10");
        x.join(1);
        CHECK.dueText("a full paragraph after join", Briefs.cited(x, 0), "1.8 1.9 1.10 1.11 1.12 1.13");
        CHECK.dueText("the next one after join", Briefs.cited(x, 1), "1.8 1.9 1.10 1.11 1.12 1.13");
        CHECK.dueText("the last one after join", Briefs.cited(x, 11), "1.8 1.9 1.10 1.11 1.12 1.13");
    }

    private static void promise11Set() {
        BriefBuilder x = Briefs.of(6, 4, 1);
        due("set(10)", x.set(10), 60);
        CHECK.dueText("binders of 10", Briefs.numbers(x, 2), "0 0 1");
        due("set(200)", x.set(200), 10);
        CHECK.dueText("binders of 200", Briefs.numbers(x, 2), "0 0 0");
        due("set(200) again", x.set(200), 200);
        CHECK.refused(x, "set(9)", ARGUMENT, () -> x.set(9));
        CHECK.refused(x, "set(201)", ARGUMENT, () -> x.set(201));
        CHECK.refused(x, "set(least)", ARGUMENT, () -> x.set(LEAST));
        CHECK.refused(x, "set(most)", ARGUMENT, () -> x.set(MOST));
    }

    private static void promise12Append() {
        BriefBuilder x = new BriefBuilder();
        CHECK.refused(x, "append(32)", ARGUMENT, () -> x.append(32));
        CHECK.refused(x, "append(127)", ARGUMENT, () -> x.append(127));
        CHECK.refused(x, "append(least)", ARGUMENT, () -> x.append(LEAST));
        for (int n = 1; n <= 60; n++) {
            due("append", x.append(n % 2 == 0 ? 33 : 126), n);
        }
        CHECK.refused(x, "append of the 61st", STATE, () -> x.append(33));
        CHECK.refused(x, "append of a wrong 61st", ARGUMENT, () -> x.append(127));
        due("append is not undoable", x.count(8), 0);
    }

    private static void promise13ClearBuffer() {
        BriefBuilder x = new BriefBuilder();
        Briefs.type(x, "A.1");
        due("clearBuffer", x.clearBuffer(), 3);
        due("clearBuffer of an empty one", x.clearBuffer(), 0);
        due("append behind it", x.append('A'), 1);
        due("clearBuffer is not undoable", x.count(8), 0);
    }

    private static void error(String text, int want) {
        BriefBuilder x = new BriefBuilder();
        Briefs.type(x, text);
        due("firstError of " + text, x.firstError(), want);
        due("firstError again of " + text, x.firstError(), want);
    }

    private static void promise14FirstError() {
        error("", 0);
        error("A", 1);
        error("Z.9", 3);
        error("AD.60", 5);
        error("AE.1", 1);
        error("BA.1", 1);
        error("AAA.1", 2);
        error("a.1", 0);
        error("@.1", 0);
        error("[.1", 0);
        error(".1", 0);
        error("1", 0);
        error(",", 0);
        error("A,1", 1);
        error("A.0", 2);
        error("A..1", 2);
        error("A.,", 2);
        error("A.60", 4);
        error("A.61", 3);
        error("A.69", 3);
        error("A.59", 4);
        error("A.70", 3);
        error("A.7,", 4);
        error("A.100", 4);
        error("A.600", 4);
        error("A.5A", 3);
        error("A.55A", 4);
        error("A.5.", 3);
        error("A.5,,", 4);
        error("A.5,1", 4);
        error("A.5,AA.6,Z.60,AB.7,AC.59,AD.10", 30);
        error("A.1,A.1,A.1,A.1,A.1,A.1,", 23);
        error("A.1,A.1,A.1,A.1,A.1,A.11,", 24);
        error("AD.60,AD.60,AD.60,AD.60,AD.60,AD.60,A", 35);
        error("x".repeat(60), 0);
    }

    private static void promise15CiteAll() {
        BriefBuilder x = Briefs.of(5, 6);
        x.cite(2, 0, 1);
        x.cite(2, 0, 2);
        Briefs.type(x, "B.6,A.6,B.60,A.5,B.1");
        due("citeAll returns how many it had", x.citeAll(2), 2);
        CHECK.dueText("citeAll", Briefs.cited(x, 2), "1.6 0.6! 1.60! 0.5 1.1");
        due("citeAll clears the buffer", x.clearBuffer(), 0);
        String[] incomplete = {"", "A", "A.", "A.1,", "A.61", "A.1;", "a.1", "A.1,B", "A.1,B.",
            "A.1,A.1,A.1,A.1,A.1,A.1,", "C", "C.0"};
        for (String text : incomplete) {
            x.clearBuffer();
            Briefs.type(x, text);
            CHECK.refused(x, "citeAll of " + text, ARGUMENT, () -> x.citeAll(2));
            CHECK.refused(x, "citeAll(12) of " + text, OUT, () -> x.citeAll(12));
            CHECK.refused(x, "citeAll(-1) of " + text, OUT, () -> x.citeAll(-1));
        }
        x.clearBuffer();
        Briefs.type(x, "A.1,C.1");
        CHECK.refused(x, "citeAll without an exhibit C", STATE, () -> x.citeAll(2));
        CHECK.refused(x, "citeAll(12) without an exhibit C", OUT, () -> x.citeAll(12));
        x.insert(0, 1);
        due("citeAll by the letters of now", x.citeAll(0), 0);
        CHECK.dueText("citeAll by the letters of now", Briefs.cited(x, 0), "2.1 1.1");
        BriefBuilder full = Briefs.full();
        Briefs.type(full, "AD.3,AA.1,Z.2");
        due("citeAll with two letters", full.citeAll(11), 0);
        CHECK.dueText("citeAll with two letters", Briefs.cited(full, 11), "29.3 26.1 25.2");
        full.drop(0);
        Briefs.type(full, "AD.1");
        CHECK.refused(full, "citeAll without an exhibit AD", STATE, () -> full.citeAll(11));
    }

    private static void promise16Undo() {
        BriefBuilder x = new BriefBuilder();
        CHECK.refused(x, "undo of none", STATE, x::undo);
        x.insert(0, 5);
        x.insert(0, 6);
        due("undo", x.undo(), 1);
        order(x, "undo", "0");
        due("a number that was undone comes again", x.insert(0, 7), 1);
        due("undo", x.undo(), 1);
        due("undo", x.undo(), 0);
        CHECK.refused(x, "undo of none", STATE, x::undo);
        due("count(0) after undo", x.count(0), 0);
    }

    private static void promise17Exhibit() {
        BriefBuilder x = Briefs.of(20, 40, 1, 60, 60, 5);
        x.move(0, 1);
        x.cite(0, 2, 1);
        x.cite(0, 2, 2);
        x.cite(7, 2, 1);
        CHECK.dueText("numbers", Briefs.numbers(x, 0), "1 0 2 3 4 5");
        CHECK.dueText("pages", Briefs.numbers(x, 1), "40 20 1 60 60 5");
        CHECK.dueText("binders", Briefs.numbers(x, 2), "0 0 1 2 3 4");
        CHECK.dueText("tabs", Briefs.numbers(x, 3), "0 1 0 0 0 0");
        CHECK.dueText("first pages", Briefs.numbers(x, 4), "1 42 65 69 132 195");
        CHECK.dueText("citations", Briefs.numbers(x, 5), "0 0 3 0 0 0");
        x.set(10);
        CHECK.dueText("an exhibit larger than a binder", Briefs.numbers(x, 2), "0 1 2 3 4 5");
        for (int what = 0; what <= 5; what++) {
            due("no such place", x.exhibit(6, what), -1);
            due("no such place", x.exhibit(MOST, what), -1);
        }
        CHECK.refused(x, "exhibit(-1, 0)", ARGUMENT, () -> x.exhibit(-1, 0));
        CHECK.refused(x, "exhibit(0, 6)", ARGUMENT, () -> x.exhibit(0, 6));
        CHECK.refused(x, "exhibit(0, -1)", ARGUMENT, () -> x.exhibit(0, -1));
        CHECK.refused(x, "exhibit(6, 6)", ARGUMENT, () -> x.exhibit(6, 6));
        CHECK.refused(x, "exhibit(least, 0)", ARGUMENT, () -> x.exhibit(LEAST, 0));
    }

    private static void promise18Citation() {
        BriefBuilder x = Briefs.of(50, 20);
        x.cite(1, 1, 20);
        x.cite(1, 1, 21);
        x.cite(1, 0, 50);
        long[][] want = {{1, 1, 20, 0, 73}, {1, 1, 21, 1, -1}, {0, 0, 50, 0, 50}};
        for (int i = 0; i < 3; i++) {
            for (int what = 0; what <= 4; what++) {
                due("citation(1, " + i + ", " + what + ")", x.citation(1, i, what), want[i][what]);
            }
        }
        x.drop(0);
        long[] gone = {0, -1, 50, 1, -1};
        for (int what = 0; what <= 4; what++) {
            due("citation of a gone one, " + what, x.citation(1, 2, what), gone[what]);
            due("no such citation", x.citation(1, 3, what), -1);
            due("no such citation", x.citation(11, 0, what), -1);
            due("no such citation", x.citation(1, MOST, what), -1);
        }
        due("the letter follows", x.citation(1, 0, 1), 0);
        due("the page follows", x.citation(1, 0, 4), 20);
        CHECK.refused(x, "citation(12, -1, 5)", OUT, () -> x.citation(12, -1, 5));
        CHECK.refused(x, "citation(-1, 0, 0)", OUT, () -> x.citation(-1, 0, 0));
        CHECK.refused(x, "citation(1, -1, 0)", ARGUMENT, () -> x.citation(1, -1, 0));
        CHECK.refused(x, "citation(1, 0, 5)", ARGUMENT, () -> x.citation(1, 0, 5));
        CHECK.refused(x, "citation(1, 0, -1)", ARGUMENT, () -> x.citation(1, 0, -1));
        CHECK.refused(x, "citation(1, 9, 5)", ARGUMENT, () -> x.citation(1, 9, 5));
    }

    private static void promise19Paragraph() {
        BriefBuilder x = Briefs.of(5);
        x.cite(4, 0, 5);
        x.cite(4, 0, 6);
        x.print(4);
        x.cite(4, 0, 7);
        due("citations", x.paragraph(4, 0), 3);
        due("lost", x.paragraph(4, 1), 2);
        due("stale", x.paragraph(4, 2), 1);
        due("printed", x.paragraph(4, 3), 2);
        CHECK.refused(x, "paragraph(12, 4)", OUT, () -> x.paragraph(12, 4));
        CHECK.refused(x, "paragraph(-1, 0)", OUT, () -> x.paragraph(-1, 0));
        CHECK.refused(x, "paragraph(0, 4)", ARGUMENT, () -> x.paragraph(0, 4));
        CHECK.refused(x, "paragraph(11, -1)", ARGUMENT, () -> x.paragraph(11, -1));
    }

    private static void promise20Table() {
        BriefBuilder x = Briefs.of(5, 5);
        x.cite(0, 1, 5);
        x.cite(0, 1, 6);
        x.cite(3, 1, 6);
        x.cite(11, 1, 1);
        x.cite(11, 1, 2);
        x.cite(5, 0, 1);
        due("table(1)", x.table(1), 1 | 1 << 11);
        due("table(0)", x.table(0), 1 << 5);
        CHECK.refused(x, "table(2)", OUT, () -> x.table(2));
        CHECK.refused(x, "table(-1)", OUT, () -> x.table(-1));
        CHECK.refused(x, "table(most)", OUT, () -> x.table(MOST));
    }

    private static void promise21Count() {
        BriefBuilder x = Briefs.of(50, 20, 30);
        x.cite(0, 0, 51);
        x.cite(0, 1, 20);
        x.cite(1, 1, 21);
        x.print(0);
        x.set(55);
        int[] want = {3, 100, 2, 3, 2, 11, 2, 55, 6};
        for (int what = 0; what <= 8; what++) {
            due("count(" + what + ")", x.count(what), want[what]);
        }
        CHECK.refused(x, "count(9)", ARGUMENT, () -> x.count(9));
        CHECK.refused(x, "count(-1)", ARGUMENT, () -> x.count(-1));
        CHECK.refused(x, "count(least)", ARGUMENT, () -> x.count(LEAST));
    }

    private static void promise22IfInserted() {
        BriefBuilder x = Briefs.of(50, 10, 30);
        x.cite(0, 0, 1);
        x.cite(1, 1, 1);
        x.cite(2, 2, 1);
        for (int paragraph = 0; paragraph < 12; paragraph++) {
            x.print(paragraph);
        }
        int[] stale = {3, 2, 1, 0};
        int[] binders = {3, 3, 2, 2};
        for (int place = 0; place <= 3; place++) {
            due("stale with one at " + place, x.ifInserted(place, 30, 0), stale[place]);
            due("binders with one at " + place, x.ifInserted(place, 30, 1), binders[place]);
        }
        due("binders with 1 page behind", x.ifInserted(3, 1, 1), 2);
        due("binders with 31 pages behind", x.ifInserted(3, 31, 1), 3);
        due("nothing was inserted", x.count(0), 3);
        due("nothing is stale", x.count(5), 0);
        CHECK.refused(x, "ifInserted(4, 0, 2)", OUT, () -> x.ifInserted(4, 0, 2));
        CHECK.refused(x, "ifInserted(-1, 1, 0)", OUT, () -> x.ifInserted(-1, 1, 0));
        CHECK.refused(x, "ifInserted(3, 0, 0)", ARGUMENT, () -> x.ifInserted(3, 0, 0));
        CHECK.refused(x, "ifInserted(3, 61, 0)", ARGUMENT, () -> x.ifInserted(3, 61, 0));
        CHECK.refused(x, "ifInserted(3, 1, 2)", ARGUMENT, () -> x.ifInserted(3, 1, 2));
        CHECK.refused(x, "ifInserted(3, 1, -1)", ARGUMENT, () -> x.ifInserted(3, 1, -1));
        BriefBuilder full = Briefs.full();
        full.cite(0, 29, 1);
        full.print(0);
        due("stale with a 31st", full.ifInserted(0, 60, 0), 12);
        due("stale with a 31st behind", full.ifInserted(30, 60, 0), 11);
        due("binders with a 31st ahead", full.ifInserted(0, 60, 1), 3);
        due("binders with a 31st behind", full.ifInserted(30, 60, 1), 3);
        due("binders with a small 31st behind", full.ifInserted(30, 30, 1), 2);
    }

    private static void promise23IfDropped() {
        BriefBuilder x = Briefs.of(5, 6, 7);
        x.cite(0, 0, 5);
        x.cite(1, 1, 6);
        x.cite(1, 1, 7);
        x.cite(2, 2, 7);
        x.cite(3, 1, 60);
        for (int paragraph = 0; paragraph < 12; paragraph++) {
            x.print(paragraph);
        }
        int[] lost = {1, 1, 1};
        int[] stale = {4, 3, 1};
        for (int place = 0; place < 3; place++) {
            due("lost without " + place, x.ifDropped(place, 0), lost[place]);
            due("stale without " + place, x.ifDropped(place, 1), stale[place]);
        }
        due("nothing was dropped", x.count(0), 3);
        CHECK.refused(x, "ifDropped(3, 2)", OUT, () -> x.ifDropped(3, 2));
        CHECK.refused(x, "ifDropped(-1, 0)", OUT, () -> x.ifDropped(-1, 0));
        CHECK.refused(x, "ifDropped(0, 2)", ARGUMENT, () -> x.ifDropped(0, 2));
        CHECK.refused(x, "ifDropped(0, -1)", ARGUMENT, () -> x.ifDropped(0, -1));
    }

    private static void promise24BestMove() {
        BriefBuilder x = Briefs.of(10, 20, 30);
        x.cite(0, 0, 1);
        x.print(0);
        due("where nothing is stale, the lowest", x.bestMove(2), 1);
        due("where it stands", x.bestMove(0), 0);
        x.move(0, 2);
        due("where it was printed", x.bestMove(2), 0);
        BriefBuilder y = Briefs.of(40, 40, 20, 20);
        due("the fewest binders, the lowest", y.bestMove(1), 2);
        due("the fewest binders, at the front", y.bestMove(2), 0);
        y.cite(0, 1, 1);
        y.print(0);
        due("stale ones weigh more than binders", y.bestMove(1), 1);
        due("nothing was moved", y.exhibit(1, 0), 1);
        CHECK.refused(y, "bestMove(4)", OUT, () -> y.bestMove(4));
        CHECK.refused(y, "bestMove(-1)", OUT, () -> y.bestMove(-1));
        BriefBuilder empty = new BriefBuilder();
        CHECK.refused(empty, "bestMove of none", OUT, () -> empty.bestMove(0));
    }

    private static void promise25LeastPages() {
        BriefBuilder x = Briefs.of(50, 60, 40, 50);
        due("one binder", x.leastPages(1), 200);
        due("two binders", x.leastPages(2), 110);
        due("three binders", x.leastPages(3), 90);
        due("four binders", x.leastPages(4), 10);
        due("thirty binders", x.leastPages(30), 10);
        due("the setting is as it was", x.count(7), 60);
        x.insert(4, 1);
        due("none", x.leastPages(1), -1);
        due("of none", new BriefBuilder().leastPages(1), 10);
        CHECK.refused(x, "leastPages(0)", ARGUMENT, () -> x.leastPages(0));
        CHECK.refused(x, "leastPages(31)", ARGUMENT, () -> x.leastPages(31));
        CHECK.refused(x, "leastPages(least)", ARGUMENT, () -> x.leastPages(LEAST));
    }

    private static void promise26CitedShare() {
        BriefBuilder x = new BriefBuilder();
        CHECK.dueShare("without exhibits", x.citedShare(), 1.0);
        x.insert(0, 5);
        CHECK.dueShare("none of one", x.citedShare(), 0.0);
        x.insert(0, 5);
        x.insert(0, 5);
        x.cite(0, 0, 1);
        x.cite(1, 0, 1);
        x.cite(2, 1, 6);
        CHECK.dueShare("one of three", x.citedShare(), 1.0 / 3);
        x.cite(3, 1, 5);
        CHECK.dueShare("two of three", x.citedShare(), 2.0 / 3);
        x.cite(3, 2, 5);
        CHECK.dueShare("all", x.citedShare(), 1.0);
    }

    /** Exhibits come in, are cited and printed, and go again, up to the call of this number. */
    private static BriefBuilder growing(int steps) {
        BriefBuilder x = Briefs.typed("A.1~");
        for (int n = 0; n < steps; n++) {
            if (n < 30) {
                x.insert(0, 1 + 7 * n % 60);
                x.cite(n % 12, 0, 1);
                x.print(n % 7);
            } else {
                x.drop(n % 2 == 0 ? 0 : x.count(0) - 1);
            }
        }
        return x;
    }

    private static void promise27Digest() {
        due("digest of a new one", new BriefBuilder().digest(), Briefs.listed(BriefBuilder::new, ""));
        for (int n = 0; n <= 60; n++) {
            int steps = n;
            due("digest after " + n, growing(n).digest(), Briefs.listed(() -> growing(steps), "A.1~"));
        }
        BriefBuilder x = growing(40);
        long before = x.digest();
        due("digest changes nothing", x.digest(), before);
    }
}
