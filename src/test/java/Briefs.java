import java.util.ArrayList;
import java.util.List;
import java.util.function.Supplier;

/** Briefs to begin a test with, and all that can be seen of one. */
final class Briefs {
    static final String[] LETTERS = {"A", "B", "C", "D", "E", "F", "G", "H", "I", "J", "K", "L", "M",
        "N", "O", "P", "Q", "R", "S", "T", "U", "V", "W", "X", "Y", "Z", "AA", "AB", "AC", "AD"};

    private Briefs() {
    }

    /** Exhibits with the numbers 0, 1, .. in this order. */
    static BriefBuilder of(int... pages) {
        BriefBuilder x = new BriefBuilder();
        for (int i = 0; i < pages.length; i++) {
            x.insert(i, pages[i]);
        }
        return x;
    }

    static BriefBuilder many(int exhibits, int pages) {
        BriefBuilder x = new BriefBuilder();
        for (int i = 0; i < exhibits; i++) {
            x.insert(i, pages);
        }
        return x;
    }

    static BriefBuilder full() {
        return many(30, 3);
    }

    static BriefBuilder type(BriefBuilder x, String text) {
        for (char c : text.toCharArray()) {
            x.append(c);
        }
        return x;
    }

    static BriefBuilder typed(String text) {
        return type(new BriefBuilder(), text);
    }

    static BriefBuilder citeTimes(BriefBuilder x, int times, int paragraph, int place, int page) {
        for (int n = 0; n < times; n++) {
            x.cite(paragraph, place, page);
        }
        return x;
    }

    static BriefBuilder printAll(BriefBuilder x) {
        for (int paragraph = 0; paragraph < 12; paragraph++) {
            x.print(paragraph);
        }
        return x;
    }

    /** Fills the saved states, and changes nothing else. */
    static BriefBuilder crammed(BriefBuilder x) {
        for (int n = 0; n < 6; n++) {
            x.set(x.count(7));
        }
        return x;
    }

    static String numbers(BriefBuilder x, int what) {
        StringBuilder line = new StringBuilder();
        for (int place = 0; place < x.count(0); place++) {
            line.append(place == 0 ? "" : " ").append(x.exhibit(place, what));
        }
        return line.toString();
    }

    /** Each citation as the number of its exhibit, its page, and "!" if it is lost. */
    static String cited(BriefBuilder x, int paragraph) {
        StringBuilder line = new StringBuilder();
        for (int i = 0; i < x.paragraph(paragraph, 0); i++) {
            line.append(i == 0 ? "" : " ").append(x.citation(paragraph, i, 0)).append('.')
                    .append(x.citation(paragraph, i, 2)).append(x.citation(paragraph, i, 3) == 1 ? "!" : "");
        }
        return line.toString();
    }

    static String letters(BriefBuilder x, int paragraph) {
        StringBuilder line = new StringBuilder();
        for (int i = 0; i < x.paragraph(paragraph, 0); i++) {
            line.append(i == 0 ? "" : " ").append(x.citation(paragraph, i, 1));
        }
        return line.toString();
    }

    /** All that can be seen, but the buffer and the saved states. */
    static List<Long> seen(BriefBuilder x) {
        List<Long> seen = new ArrayList<>();
        for (int what = 0; what <= 7; what++) {
            seen.add((long) x.count(what));
        }
        for (int place = 0; place < x.count(0); place++) {
            for (int what = 0; what <= 5; what++) {
                seen.add((long) x.exhibit(place, what));
            }
            seen.add((long) x.table(place));
            seen.add((long) x.ifDropped(place, 1));
        }
        for (int paragraph = 0; paragraph < 12; paragraph++) {
            for (int what = 0; what <= 3; what++) {
                seen.add((long) x.paragraph(paragraph, what));
            }
            for (int i = 0; i < x.paragraph(paragraph, 0); i++) {
                for (int what = 0; what <= 4; what++) {
                    seen.add((long) x.citation(paragraph, i, what));
                }
            }
        }
        return seen;
    }

    /** All that a brief can still be made to tell: itself, its buffer, each saved state, and its next number. */
    static List<Long> told(Supplier<BriefBuilder> setup) {
        BriefBuilder x = setup.get();
        List<Long> told = new ArrayList<>();
        told.add(x.digest());
        told.add((long) x.clearBuffer());
        for (int saved = x.count(8); saved > 0; saved--) {
            x.undo();
            told.add(x.digest());
        }
        told.add((long) nextNumber(setup.get()));
        return told;
    }

    /** All calls that look or tell what would be, and those of the buffer, which is empty then. */
    static void askAll(BriefBuilder x) {
        x.append('A');
        x.firstError();
        x.clearBuffer();
        x.exhibit(0, 0);
        x.citation(0, 0, 0);
        x.paragraph(0, 0);
        x.table(0);
        x.count(0);
        x.ifInserted(0, 60, 0);
        x.ifInserted(0, 60, 1);
        x.ifDropped(0, 0);
        x.ifDropped(0, 1);
        x.bestMove(0);
        x.leastPages(1);
        x.citedShare();
        x.digest();
    }

    static int nextNumber(BriefBuilder x) {
        if (x.count(0) == 30) {
            x.drop(29);
        }
        return x.insert(0, 1);
    }

    /**
     * The digest by the document's list, from the answers of the other calls. Each part is asked of a brief of its
     * own, as none is promised to answer more than 512 calls.
     */
    static long listed(Supplier<BriefBuilder> setup, String buffer) {
        BriefBuilder x = setup.get();
        List<Long> values = new ArrayList<>();
        for (int what = 0; what <= 8; what++) {
            values.add((long) x.count(what));
        }
        for (int place = 0; place < x.count(0); place++) {
            addExhibit(values, setup.get(), place);
        }
        for (int paragraph = 0; paragraph < 12; paragraph++) {
            addParagraph(values, setup.get(), paragraph);
        }
        values.add((long) x.ifInserted(0, 5, 0));
        values.add((long) x.ifInserted(0, 5, 1));
        values.add((long) x.leastPages(2));
        values.add(Double.doubleToLongBits(x.citedShare()));
        values.add((long) buffer.length());
        buffer.chars().forEach(c -> values.add((long) c));
        long hash = 3137;
        for (long value : values) {
            hash = 31 * hash + value;
        }
        return hash;
    }

    private static void addExhibit(List<Long> values, BriefBuilder x, int place) {
        for (int what = 0; what <= 5; what++) {
            values.add((long) x.exhibit(place, what));
        }
        values.add((long) x.table(place));
        values.add((long) x.ifDropped(place, 0));
        values.add((long) x.ifDropped(place, 1));
        values.add((long) x.bestMove(place));
    }

    private static void addParagraph(List<Long> values, BriefBuilder x, int paragraph) {
        for (int what = 0; what <= 3; what++) {
            values.add((long) x.paragraph(paragraph, what));
        }
        for (int i = 0; i < x.paragraph(paragraph, 0); i++) {
            for (int what = 0; what <= 4; what++) {
                values.add((long) x.citation(paragraph, i, what));
            }
        }
    }
}
