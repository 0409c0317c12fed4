import java.util.function.Supplier;

/** The boundary sentences of the promises 12 to 16. */
final class BoundariesOfTexts extends BoundaryTests {
    private static final String LONGEST = "AD.60,AD.60,AD.60,AD.60,AD.60,AD.60";
    private static final Supplier<BriefBuilder> FULL_BUFFER = () -> Briefs.type(Briefs.of(5), "A.1".repeat(20));

    BoundariesOfTexts(Check check) {
        super(check);
    }

    // ---- promise 12: append

    @Sentence(of = "Promise 12", says = "Appends a character to the buffer.")
    void promise12AppendsBehindTheOthers() {
        dueDigest("three characters", () -> Briefs.typed("A.1"), "A.1");
        dueDigest("four characters", () -> Briefs.typed("A.1~"), "A.1~");
        dueDigest("sixty characters", FULL_BUFFER, "A.1".repeat(20));
        notUndoable(() -> Briefs.of(5), "append", b -> b.append('A'));
    }

    @Sentence(of = "Promise 12", says = "`code`: the character code, 33 to 126")
    void promise12CodeIs33To126() {
        BriefBuilder x = new BriefBuilder();
        due("append(33)", x.append(33), 1);
        due("append(126)", x.append(126), 2);
        dueThrown("append(32)", ARGUMENT, b -> b.append(32), x);
        dueThrown("append(127)", ARGUMENT, b -> b.append(127), x);
        dueDigest("the first and the last", () -> Briefs.typed("!~"), "!~");
    }

    @Sentence(of = "Promise 12", says = "Returns the new length of the buffer.")
    void promise12ReturnsTheNewLength() {
        BriefBuilder x = new BriefBuilder();
        for (int n = 1; n <= 60; n++) {
            due("append", x.append('A'), n);
        }
        x.clearBuffer();
        due("append behind clearBuffer", x.append('A'), 1);
    }

    @Sentence(of = "Promise 12", says = "Throws `IllegalArgumentException` if code is not 33 to 126")
    void promise12ThrowsIfCodeIsNot33To126() {
        refusedEach(ARGUMENT, BriefBuilder::new, "append", BriefBuilder::append, 32, 127, 0, -1, LEAST, MOST);
        refusedEach(ARGUMENT, () -> Briefs.typed("A.1"), "append behind three", BriefBuilder::append, 32, 127);
    }

    @Sentence(of = "Promise 12", says = "Throws `IllegalStateException` if the buffer has 60 characters")
    void promise12ThrowsIfTheBufferHas60() {
        refusedEach(STATE, FULL_BUFFER, "append to sixty", BriefBuilder::append, 33, 126, ',');
        due("append to 59", Briefs.typed("~".repeat(59)).append('~'), 60);
    }

    @Sentence(of = "Promise 12", says = "throws IllegalArgumentException, IllegalStateException")
    void promise12ThrowsTheFirstNamed() {
        refusedEach(ARGUMENT, FULL_BUFFER, "append to sixty", BriefBuilder::append, 32, 127, LEAST, MOST);
    }

    // ---- promise 13: clearBuffer

    @Sentence(of = "Promise 13", says = "Clears the buffer.")
    void promise13ClearsTheBuffer() {
        BriefBuilder x = FULL_BUFFER.get();
        x.clearBuffer();
        due("digest behind clearBuffer", x.digest(), Briefs.of(5).digest());
        due("firstError behind clearBuffer", x.firstError(), 0);
        dueThrown("citeAll behind clearBuffer", ARGUMENT, b -> b.citeAll(0), x);
        due("append behind clearBuffer", x.append('A'), 1);
        notUndoable(FULL_BUFFER, "clearBuffer", BriefBuilder::clearBuffer);
    }

    @Sentence(of = "Promise 13", says = "Returns the length that it had.")
    void promise13ReturnsTheLengthThatItHad() {
        BriefBuilder x = new BriefBuilder();
        due("clearBuffer of an empty one", x.clearBuffer(), 0);
        x.append('A');
        due("clearBuffer of one character", x.clearBuffer(), 1);
        due("clearBuffer again", x.clearBuffer(), 0);
        due("clearBuffer of a full one", FULL_BUFFER.get().clearBuffer(), 60);
        due("clearBuffer of 59", Briefs.typed("~".repeat(59)).clearBuffer(), 59);
    }

    // ---- promise 14: firstError

    @Sentence(of = "Promise 14", says = "Finds the first syntax error of the buffer.")
    void promise14FindsTheFirst() {
        due("an error at the beginning", Briefs.typed("1").firstError(), 0);
        due("two errors", Briefs.typed("A.0,A.61").firstError(), 2);
        due("errors throughout a full buffer", Briefs.typed("~".repeat(60)).firstError(), 0);
        due("an error behind the longest text", Briefs.typed(LONGEST + ",").firstError(), 35);
        due("errors behind the longest text", Briefs.typed(LONGEST + ",".repeat(25)).firstError(), 35);
        due("an error at the end", Briefs.typed(LONGEST.substring(0, 34) + "1").firstError(), 34);
        looksOnly(() -> Briefs.typed("A.0"), "firstError", BriefBuilder::firstError);
    }

    @Sentence(of = "Promise 14", says = "Returns the index of the first character that is a syntax error")
    void promise14ReturnsTheIndexOfTheFirstError() {
        String text = "A.1,AA.60,Z.59,AD.10,B.9,C.6";
        for (int i = 0; i < text.length(); i++) {
            String broken = text.substring(0, i) + "~" + text.substring(i + 1);
            due("firstError of " + broken, Briefs.typed(broken).firstError(), i);
        }
    }

    @Sentence(of = "Promise 14", says = "the length of the buffer if there is none.")
    void promise14ReturnsTheLengthIfThereIsNone() {
        due("firstError of an empty buffer", new BriefBuilder().firstError(), 0);
        for (int length = 1; length <= LONGEST.length(); length++) {
            String text = LONGEST.substring(0, length);
            due("firstError of " + text, Briefs.typed(text).firstError(), length);
        }
    }

    // ---- promise 15: citeAll

    @Sentence(of = "Promise 15", says = "in place of its own, all or none, and clears the buffer. Undoable.")
    void promise15InPlaceOfItsOwnUndoable() {
        BriefBuilder x = Briefs.citeTimes(Briefs.full(), 6, 0, 1, 1);
        Briefs.type(x, "AD.60");
        x.citeAll(0);
        dueText("one in place of six", Briefs.cited(x, 0), "29.60!");
        due("the buffer behind it", x.clearBuffer(), 0);
        Briefs.type(x, LONGEST);
        x.citeAll(0);
        dueText("six in place of one", Briefs.cited(x, 0), "29.60! 29.60! 29.60! 29.60! 29.60! 29.60!");
        due("the buffer behind it", x.clearBuffer(), 0);
        dueText("the paragraph behind it", Briefs.cited(x, 1), "");
        undoable(Briefs::full, "citeAll of six", b -> Briefs.type(b, LONGEST).citeAll(0));
        undoable(() -> Briefs.citeTimes(Briefs.of(5), 6, 0, 0, 1), "citeAll of one for six",
                b -> Briefs.type(b, "A.2").citeAll(0));
    }

    @Sentence(of = "Promise 15", says = "all or none")
    void promise15AllOrNone() {
        BriefBuilder x = Briefs.citeTimes(Briefs.of(5, 6), 2, 0, 1, 1);
        Briefs.type(x, "A.1,A.2,A.3,A.4,A.5,C.1");
        dueThrown("citeAll with no exhibit for the last", STATE, b -> b.citeAll(0), x);
        dueText("citations", Briefs.cited(x, 0), "1.1 1.1");
        due("the buffer", x.clearBuffer(), 23);
        Briefs.type(x, "A.1,A.2,A.3,A.4,A.5,B.");
        dueThrown("citeAll with a last one that is not complete", ARGUMENT, b -> b.citeAll(0), x);
        dueText("citations", Briefs.cited(x, 0), "1.1 1.1");
        due("the buffer", x.append('6'), 23);
        due("citeAll of all", x.citeAll(0), 2);
        dueText("citations", Briefs.cited(x, 0), "0.1 0.2 0.3 0.4 0.5 1.6");
    }

    @Sentence(of = "Promise 15", says = "`paragraph`: 0 to 11")
    void promise15ParagraphIs0To11() {
        BriefBuilder x = Briefs.type(Briefs.of(5), "A.1");
        dueThrown("citeAll(-1)", OUT, b -> b.citeAll(-1), x);
        dueThrown("citeAll(12)", OUT, b -> b.citeAll(12), x);
        due("citeAll(0)", x.citeAll(0), 0);
        Briefs.type(x, "A.2");
        due("citeAll(11)", x.citeAll(11), 0);
        dueText("the first", Briefs.cited(x, 0), "0.1");
        dueText("the second", Briefs.cited(x, 1), "");
        dueText("the last but one", Briefs.cited(x, 10), "");
        dueText("the last", Briefs.cited(x, 11), "0.2");
    }

    @Sentence(of = "Promise 15", says = "Returns how many it had.")
    void promise15ReturnsHowManyItHad() {
        for (int had = 0; had <= 6; had++) {
            BriefBuilder x = Briefs.citeTimes(Briefs.of(5), had, 0, 0, 6);
            due("citeAll", Briefs.type(x, "A.1").citeAll(0), had);
            due("citeAll again", Briefs.type(x, "A.1").citeAll(0), 1);
        }
    }

    @Sentence(of = "Promise 15", says = "Throws `IndexOutOfBoundsException` if there is no such paragraph")
    void promise15ThrowsIfThereIsNoSuchParagraph() {
        refusesParagraphs("citeAll", BriefBuilder::citeAll);
    }

    @Sentence(of = "Promise 15",
            says = "Throws `IllegalArgumentException` if the buffer is not complete citations as a text")
    void promise15ThrowsIfTheBufferIsNotComplete() {
        String[] incomplete = {"", "A", "A.", "A.0", "A.61", "A.600", "A.1,", "A.1,A", "A.1,A.", "A.01", "A1", "AE.1",
            "BA.1", "a.1", "A.1;", "A.1,,A.1", ",A.1", "A.1,A.1,A.1,A.1,A.1,A.1,", "A.1,A.1,A.1,A.1,A.1,A.1,A.1",
            "A.1,A.1,A.1,A.1,A.1,A", "A.1,A.1,A.1,A.1,A.1,A.", "~".repeat(60), LONGEST + "~".repeat(25)};
        for (String text : incomplete) {
            refused(ARGUMENT, () -> Briefs.type(Briefs.citeTimes(Briefs.full(), 6, 0, 0, 1), text),
                    "citeAll of '" + text + "'", x -> x.citeAll(0));
        }
        due("citeAll of the longest", Briefs.type(Briefs.full(), LONGEST).citeAll(0), 0);
        due("citeAll of the shortest", Briefs.type(Briefs.full(), "A.1").citeAll(0), 0);
    }

    @Sentence(of = "Promise 15", says = "Throws `IllegalStateException` if there is no exhibit with a letter")
    void promise15ThrowsIfThereIsNoExhibitWithALetter() {
        refused(STATE, () -> Briefs.typed("A.1"), "citeAll of A without exhibits", x -> x.citeAll(0));
        refused(STATE, () -> Briefs.type(Briefs.of(5, 6), "C.1"), "citeAll of C of two", x -> x.citeAll(0));
        refused(STATE, () -> Briefs.type(Briefs.of(5, 6), "C.1,A.1"), "citeAll of C and A", x -> x.citeAll(0));
        refused(STATE, () -> Briefs.type(Briefs.of(5, 6), "A.1,C.1"), "citeAll of A and C", x -> x.citeAll(0));
        refused(STATE, () -> Briefs.type(Briefs.many(29, 1), "AD.1"), "citeAll of AD of 29", x -> x.citeAll(0));
        refused(STATE, () -> Briefs.type(Briefs.many(26, 1), "AA.1"), "citeAll of AA of 26", x -> x.citeAll(0));
        due("citeAll of B of two", Briefs.type(Briefs.of(5, 6), "B.1").citeAll(0), 0);
        due("citeAll of Z of 26", Briefs.type(Briefs.many(26, 1), "Z.1").citeAll(0), 0);
        due("citeAll of AD of thirty", Briefs.type(Briefs.full(), "AD.1").citeAll(0), 0);
    }

    @Sentence(of = "Promise 15",
            says = "throws IndexOutOfBoundsException, IllegalArgumentException, IllegalStateException")
    void promise15ThrowsTheFirstNamed() {
        refused(OUT, () -> Briefs.typed("C.1,"), "citeAll(12) of a wrong text", x -> x.citeAll(12));
        refused(OUT, () -> Briefs.typed(""), "citeAll(-1) of an empty text", x -> x.citeAll(-1));
        refused(OUT, () -> Briefs.typed("C.1"), "citeAll(12) of no exhibit", x -> x.citeAll(12));
        refused(ARGUMENT, () -> Briefs.typed("C.1,"), "citeAll of no exhibit and a comma", x -> x.citeAll(0));
        refused(ARGUMENT, () -> Briefs.typed("C.0"), "citeAll of no exhibit and no page", x -> x.citeAll(0));
        refused(ARGUMENT, () -> Briefs.typed("C.1,C.1,C.1,C.1,C.1,C.1,C.1"), "citeAll of seven of no exhibit",
                x -> x.citeAll(0));
    }

    // ---- promise 16: undo

    @Sentence(of = "Promise 16", says = "Restores the latest saved state, and drops it.")
    void promise16RestoresTheLatest() {
        BriefBuilder x = Briefs.of(5, 6, 7);
        x.undo();
        dueText("behind one undo", Briefs.numbers(x, 1), "5 6");
        due("saved states behind one undo", x.count(8), 2);
        x.pages(0, 9);
        due("undo of another call", x.undo(), 2);
        dueText("behind undo of another call", Briefs.numbers(x, 1), "5 6");
        x.undo();
        x.undo();
        due("exhibits behind all", x.count(0), 0);
        BriefBuilder full = Briefs.full();
        full.undo();
        due("exhibits behind undo of the thirtieth", full.count(0), 29);
        due("the number of the thirtieth again", full.insert(0, 1), 29);
    }

    @Sentence(of = "Promise 16", says = "Returns how many saved states are left.")
    void promise16ReturnsHowManyAreLeft() {
        BriefBuilder x = new BriefBuilder();
        x.insert(0, 5);
        due("undo of the only one", x.undo(), 0);
        for (int calls = 1; calls <= 8; calls++) {
            BriefBuilder y = Briefs.many(calls, 1);
            for (int left = Math.min(calls, 6) - 1; left >= 0; left--) {
                due("undo behind " + calls, y.undo(), left);
                due("count(8) behind " + calls, y.count(8), left);
            }
        }
    }

    @Sentence(of = "Promise 16", says = "Throws `IllegalStateException` if there is none")
    void promise16ThrowsIfThereIsNone() {
        refusedAsIs(STATE, BriefBuilder::new, "undo of a new one", BriefBuilder::undo);
        refusedAsIs(STATE, () -> Briefs.typed("A.1"), "undo behind append", BriefBuilder::undo);
        Supplier<BriefBuilder> undone = () -> {
            BriefBuilder x = Briefs.many(8, 1);
            for (int n = 0; n < 6; n++) {
                x.undo();
            }
            return x;
        };
        refusedAsIs(STATE, undone, "a seventh undo", BriefBuilder::undo);
        due("exhibits that are left", undone.get().count(0), 2);
        refusedAsIs(STATE, () -> {
            BriefBuilder x = new BriefBuilder();
            Check.outcome(() -> x.insert(1, 5));
            return x;
        }, "undo behind a refused call", BriefBuilder::undo);
    }
}
