import java.util.Random;
import java.util.Set;
import java.util.function.LongSupplier;

/** Long runs of calls on the class and on PlainBrief; each answer, each exception and the digest must agree. */
public final class ModelTest {
    private static final int RUNS = 480;
    /** Behind the 512th call answers are free, but the machine must not throw and no call may hang. */
    private static final int CALLS = 512;
    private static final int LONG_CALLS = 20000;
    private static final Set<String> THROWN = Set.of(IndexOutOfBoundsException.class.getName(),
            IllegalArgumentException.class.getName(), IllegalStateException.class.getName());

    private final Check check;
    private final Random random;
    private final int kind;
    private final BriefBuilder x = new BriefBuilder();
    private final PlainBrief y = new PlainBrief();
    private int calls = 0;

    private ModelTest(Check check, int seed) {
        this.check = check;
        this.random = new Random(seed);
        this.kind = seed % 4;
    }

    public static void main(String[] args) {
        Check check = new Check("ModelTest");
        for (int seed = 0; seed < RUNS; seed++) {
            ModelTest run = new ModelTest(check, seed);
            run.begin("run " + seed + ", begin: ");
            while (run.calls < CALLS) {
                run.step("run " + seed + ", call " + run.calls + ": ");
            }
        }
        ModelTest longRun = new ModelTest(check, 1);
        while (longRun.calls < LONG_CALLS) {
            longRun.step("long run, call " + longRun.calls + ": ");
        }
        texts(check);
        check.close();
    }

    /** Every text up to four characters of a few signs, and the same behind the beginnings of longer texts. */
    private static void texts(Check check) {
        String signs = "ABDEZ.,0156789a";
        String[] heads = {"", "A.1", "AD.60,", "A.1,B.2,C.3,D.4,E.5", "A.1,B.2,C.3,D.4,E.5,F.6"};
        for (String head : heads) {
            for (int n = 0; n < 15 * 15 * 15; n++) {
                String text = head + signs.charAt(n % 15) + signs.charAt(n / 15 % 15) + signs.charAt(n / 225);
                BriefBuilder x = new BriefBuilder();
                PlainBrief y = new PlainBrief();
                for (int i = 0; i < text.length(); i++) {
                    x.append(text.charAt(i));
                    y.append(text.charAt(i));
                }
                check.due("firstError of " + text, x.firstError(), y.firstError());
                check.dueText("citeAll of " + text, Check.outcome(() -> x.citeAll(0)),
                        Check.outcome(() -> y.citeAll(0)));
            }
        }
    }

    /** Mostly a number inside the bounds, at times one on or beyond them. */
    private int pick(int least, int most) {
        int dice = random.nextInt(40);
        switch (dice) {
            case 0:
                return least - 1;
            case 1:
                return most + 1;
            case 2:
                return least;
            case 3:
                return most;
            case 4:
                return random.nextInt(8) == 0 ? random.nextInt() : least;
            case 5:
                return random.nextInt(8) == 0 ? (random.nextBoolean() ? Integer.MIN_VALUE : Integer.MAX_VALUE) : most;
            default:
                return most < least ? least : least + random.nextInt(most - least + 1);
        }
    }

    private int place() {
        return pick(0, y.count(0) - 1);
    }

    /** Some runs keep to few paragraphs and few pages, so that citations meet. */
    private int paragraph() {
        return kind == 1 ? pick(0, 2) : pick(0, 11);
    }

    private int page() {
        return kind == 2 ? pick(1, 12) : pick(1, 60);
    }

    private void same(String what, LongSupplier mine, LongSupplier due) {
        String got = Check.outcome(mine);
        String want = Check.outcome(due);
        calls++;
        if (calls <= CALLS) {
            check.dueText(what, got, want);
        } else {
            check.due(what + " answers " + got + ", behind its time",
                    got.matches("-?[0-9]+") || THROWN.contains(got) ? 1 : 0, 1);
        }
    }

    /** Some runs begin with nearly all the exhibits that there may be, others with full paragraphs. */
    private void begin(String at) {
        for (int n = 0; n < 29 && kind == 3; n++) {
            int page = page();
            same(at + "insert(0, " + page + ")", () -> x.insert(0, page), () -> y.insert(0, page));
        }
        for (int n = 0; n < 18 && kind == 1; n++) {
            int paragraph = n % 3;
            int page = page();
            same(at + "insert(0, " + page + ")", () -> x.insert(0, page), () -> y.insert(0, page));
            same(at + "cite(" + paragraph + ", 0, " + page + ")",
                    () -> x.cite(paragraph, 0, page), () -> y.cite(paragraph, 0, page));
        }
    }

    private void step(String at) {
        switch (random.nextInt(10)) {
            case 0:
            case 1:
            case 2:
            case 3:
                changeExhibits(at);
                break;
            case 4:
            case 5:
            case 6:
                changeCitations(at);
                break;
            case 7:
                type(at);
                break;
            case 8:
                look(at);
                break;
            default:
                ask(at);
                break;
        }
        if (random.nextInt(8) == 0) {
            same(at + "digest()", x::digest, y::digest);
        }
    }

    private void changeExhibits(String at) {
        int dice = random.nextInt(12);
        int place = place();
        int page = page();
        if (dice < 4 || kind == 3 && dice < 6) {
            int gap = pick(0, y.count(0));
            same(at + "insert(" + gap + ", " + page + ")", () -> x.insert(gap, page), () -> y.insert(gap, page));
        } else if (dice < 7) {
            int to = place();
            same(at + "move(" + place + ", " + to + ")", () -> x.move(place, to), () -> y.move(place, to));
        } else if (dice == 7) {
            same(at + "drop(" + place + ")", () -> x.drop(place), () -> y.drop(place));
        } else if (dice == 8) {
            same(at + "pages(" + place + ", " + page + ")", () -> x.pages(place, page), () -> y.pages(place, page));
        } else if (dice == 9) {
            same(at + "join(" + place + ")", () -> x.join(place), () -> y.join(place));
        } else {
            int itsPages = place < 0 ? PlainBrief.NONE : y.exhibit(place, 1);
            int behind = pick(1, Math.max(1, itsPages - 1));
            same(at + "split(" + place + ", " + behind + ")",
                    () -> x.split(place, behind), () -> y.split(place, behind));
        }
    }

    private void changeCitations(String at) {
        int paragraph = paragraph();
        int dice = random.nextInt(12);
        if (dice < 5) {
            int place = place();
            int page = page();
            same(at + "cite(" + paragraph + ", " + place + ", " + page + ")",
                    () -> x.cite(paragraph, place, page), () -> y.cite(paragraph, place, page));
        } else if (dice < 9) {
            same(at + "print(" + paragraph + ")", () -> x.print(paragraph), () -> y.print(paragraph));
        } else if (dice == 9) {
            same(at + "clean(" + paragraph + ")", () -> x.clean(paragraph), () -> y.clean(paragraph));
        } else if (dice == 10) {
            int pages = pick(10, 200);
            same(at + "set(" + pages + ")", () -> x.set(pages), () -> y.set(pages));
        } else {
            for (int i = random.nextInt(4); i >= 0; i--) {
                same(at + "undo()", x::undo, y::undo);
            }
        }
    }

    private void type(String at) {
        if (random.nextInt(3) > 0) {
            same(at + "clearBuffer()", x::clearBuffer, y::clearBuffer);
        }
        for (int i = random.nextInt(random.nextInt(4) == 0 ? 7 : 2); i >= 0; i--) {
            int letter = y.count(0) == 0 ? 0 : random.nextInt(y.count(0));
            String one = (letter < 26 ? "" : "A") + (char) ('A' + letter % 26) + "." + (1 + random.nextInt(60));
            for (char c : (one + (i > 0 ? "," : "")).toCharArray()) {
                int code = random.nextInt(150) == 0 ? pick(33, 126) : c;
                same(at + "append(" + code + ")", () -> x.append(code), () -> y.append(code));
            }
        }
        same(at + "firstError()", x::firstError, y::firstError);
        int paragraph = paragraph();
        same(at + "citeAll(" + paragraph + ")", () -> x.citeAll(paragraph), () -> y.citeAll(paragraph));
    }

    private void look(String at) {
        int place = place();
        int what = pick(0, 5);
        int paragraph = paragraph();
        int citation = pick(0, 5);
        same(at + "exhibit(" + place + ", " + what + ")", () -> x.exhibit(place, what), () -> y.exhibit(place, what));
        same(at + "citation(" + paragraph + ", " + citation + ", " + what + ")",
                () -> x.citation(paragraph, citation, what), () -> y.citation(paragraph, citation, what));
        same(at + "paragraph(" + paragraph + ", " + what + ")",
                () -> x.paragraph(paragraph, what), () -> y.paragraph(paragraph, what));
        same(at + "table(" + place + ")", () -> x.table(place), () -> y.table(place));
        int number = pick(0, 8);
        same(at + "count(" + number + ")", () -> x.count(number), () -> y.count(number));
    }

    private void ask(String at) {
        int place = place();
        int gap = pick(0, y.count(0));
        int page = page();
        int what = pick(0, 1);
        int binders = pick(1, 30);
        same(at + "ifInserted(" + gap + ", " + page + ", " + what + ")",
                () -> x.ifInserted(gap, page, what), () -> y.ifInserted(gap, page, what));
        same(at + "ifDropped(" + place + ", " + what + ")",
                () -> x.ifDropped(place, what), () -> y.ifDropped(place, what));
        same(at + "bestMove(" + place + ")", () -> x.bestMove(place), () -> y.bestMove(place));
        same(at + "leastPages(" + binders + ")", () -> x.leastPages(binders), () -> y.leastPages(binders));
        same(at + "citedShare()", () -> Double.doubleToLongBits(x.citedShare()),
                () -> Double.doubleToLongBits(y.citedShare()));
    }
}
