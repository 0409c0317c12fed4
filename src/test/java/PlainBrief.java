import java.util.ArrayList;
import java.util.List;
import java.util.regex.Pattern;

/**
 * The document told again as plainly as can be, and slowly: lists of objects, states copied whole, what would be
 * done on a copy, texts matched by a pattern. It shares no code and no ideas with the class under test.
 */
final class PlainBrief {
    static final int NONE = -1;

    static final class Exhibit {
        final int number;
        final int pages;

        Exhibit(int number, int pages) {
            this.number = number;
            this.pages = pages;
        }
    }

    /** A citation, or what was printed of one: then the number is the letter. */
    record Cited(int number, int page) { }

    record Printed(int letter, int page, boolean lost) { }

    static final class State {
        List<Exhibit> exhibits = new ArrayList<>();
        List<List<Cited>> paragraphs = new ArrayList<>();
        List<List<Printed>> prints = new ArrayList<>();
        int next = 0;
        int setting = 60;

        State copy() {
            State s = new State();
            s.exhibits = new ArrayList<>(exhibits);
            for (List<Cited> p : paragraphs) {
                s.paragraphs.add(new ArrayList<>(p));
            }
            s.prints = new ArrayList<>(prints);
            s.next = next;
            s.setting = setting;
            return s;
        }

        int letter(int number) {
            for (Exhibit e : exhibits) {
                if (e.number == number) {
                    return exhibits.indexOf(e);
                }
            }
            return NONE;
        }

        boolean lost(Cited c) {
            return letter(c.number) == NONE || exhibits.get(letter(c.number)).pages < c.page;
        }

        List<Printed> shown(int p) {
            List<Printed> shown = new ArrayList<>();
            for (Cited c : paragraphs.get(p)) {
                shown.add(new Printed(letter(c.number), c.page, lost(c)));
            }
            return shown;
        }

        boolean stale(int p) {
            return !shown(p).equals(prints.get(p));
        }

        int staleOnes() {
            int n = 0;
            for (int p = 0; p < 12; p++) {
                n += stale(p) ? 1 : 0;
            }
            return n;
        }

        /** The binder of each exhibit. */
        List<Integer> binders() {
            List<Integer> binders = new ArrayList<>();
            int from = 0;
            for (int i = 0; i < exhibits.size(); i++) {
                int together = 0;
                for (int k = from; k <= i; k++) {
                    together += exhibits.get(k).pages;
                }
                if (i > from && together > setting) {
                    from = i;
                    binders.add(binders.get(i - 1) + 1);
                } else {
                    binders.add(i == 0 ? 0 : binders.get(i - 1));
                }
            }
            return binders;
        }

        int binderCount() {
            return exhibits.isEmpty() ? 0 : binders().get(exhibits.size() - 1) + 1;
        }

        int lostOnes() {
            int n = 0;
            for (List<Cited> p : paragraphs) {
                for (Cited c : p) {
                    n += lost(c) ? 1 : 0;
                }
            }
            return n;
        }

        int tableOf(int place) {
            int mask = 0;
            for (int p = 0; p < 12; p++) {
                for (Cited c : paragraphs.get(p)) {
                    if (c.number == exhibits.get(place).number && !lost(c)) {
                        mask |= 1 << p;
                    }
                }
            }
            return mask;
        }

        void put(int place, int pages) {
            exhibits.add(place, new Exhibit(next++, pages));
        }

        void shift(int place, int to) {
            exhibits.add(to, exhibits.remove(place));
        }
    }

    private static final Pattern WHOLE =
            Pattern.compile("([A-Z]|A[A-D])\\.([1-9]|[1-5][0-9]|60)(,([A-Z]|A[A-D])\\.([1-9]|[1-5][0-9]|60)){0,5}");

    private State now = new State();
    private final List<State> saved = new ArrayList<>();
    private final StringBuilder buffer = new StringBuilder();

    PlainBrief() {
        for (int p = 0; p < 12; p++) {
            now.paragraphs.add(new ArrayList<>());
            now.prints.add(null);
        }
    }

    private static void out(boolean wrong) {
        if (wrong) {
            throw new IndexOutOfBoundsException();
        }
    }

    private static void argument(boolean wrong) {
        if (wrong) {
            throw new IllegalArgumentException();
        }
    }

    private static void state(boolean wrong) {
        if (wrong) {
            throw new IllegalStateException();
        }
    }

    private boolean noPlace(int place) {
        return place < 0 || place > now.exhibits.size() - 1;
    }

    private static boolean noParagraph(int paragraph) {
        return paragraph < 0 || paragraph > 11;
    }

    private static boolean outside(int value, int least, int most) {
        return value < least || value > most;
    }

    private void save() {
        saved.add(now.copy());
        if (saved.size() == 7) {
            saved.remove(0);
        }
    }

    int insert(int place, int pages) {
        out(outside(place, 0, now.exhibits.size()));
        argument(outside(pages, 1, 60));
        state(now.exhibits.size() == 30);
        save();
        now.put(place, pages);
        return now.next - 1;
    }

    int move(int place, int to) {
        out(noPlace(place) || noPlace(to));
        save();
        now.shift(place, to);
        return now.exhibits.get(to).number;
    }

    int drop(int place) {
        out(noPlace(place));
        save();
        int before = now.lostOnes();
        now.exhibits.remove(place);
        return now.lostOnes() - before;
    }

    int pages(int place, int pages) {
        out(noPlace(place));
        argument(outside(pages, 1, 60));
        save();
        Exhibit old = now.exhibits.get(place);
        now.exhibits.set(place, new Exhibit(old.number, pages));
        return old.pages;
    }

    int join(int place) {
        out(noPlace(place) || place == now.exhibits.size() - 1);
        Exhibit a = now.exhibits.get(place);
        Exhibit b = now.exhibits.get(place + 1);
        state(a.pages + b.pages > 60);
        save();
        for (List<Cited> p : now.paragraphs) {
            p.replaceAll(c -> c.number == b.number && c.page + a.pages <= 60
                    ? new Cited(a.number, c.page + a.pages) : c);
        }
        now.exhibits.remove(place + 1);
        now.exhibits.set(place, new Exhibit(a.number, a.pages + b.pages));
        return a.pages + b.pages;
    }

    int split(int place, int page) {
        out(noPlace(place));
        Exhibit a = now.exhibits.get(place);
        argument(outside(page, 1, a.pages - 1));
        state(now.exhibits.size() == 30);
        save();
        now.exhibits.set(place, new Exhibit(a.number, page));
        now.put(place + 1, a.pages - page);
        int made = now.next - 1;
        for (List<Cited> p : now.paragraphs) {
            p.replaceAll(c -> c.number == a.number && c.page > page ? new Cited(made, c.page - page) : c);
        }
        return made;
    }

    int cite(int paragraph, int place, int page) {
        out(noParagraph(paragraph) || noPlace(place));
        argument(outside(page, 1, 60));
        state(now.paragraphs.get(paragraph).size() == 6);
        save();
        now.paragraphs.get(paragraph).add(new Cited(now.exhibits.get(place).number, page));
        return now.paragraphs.get(paragraph).size();
    }

    int clean(int paragraph) {
        out(noParagraph(paragraph));
        save();
        int before = now.paragraphs.get(paragraph).size();
        now.paragraphs.get(paragraph).removeIf(now::lost);
        return before - now.paragraphs.get(paragraph).size();
    }

    int print(int paragraph) {
        out(noParagraph(paragraph));
        save();
        int stale = now.stale(paragraph) ? 1 : 0;
        now.prints.set(paragraph, now.shown(paragraph));
        return stale;
    }

    int set(int pages) {
        argument(outside(pages, 10, 200));
        save();
        int before = now.setting;
        now.setting = pages;
        return before;
    }

    int append(int code) {
        argument(outside(code, 33, 126));
        state(buffer.length() == 60);
        buffer.append((char) code);
        return buffer.length();
    }

    int clearBuffer() {
        int length = buffer.length();
        buffer.setLength(0);
        return length;
    }

    /** Whether some text begins so: a last citation that is begun is filled up in every way that there is. */
    static boolean canGoOn(String begun) {
        for (String rest : new String[] {"", "A.1", ".1", "1"}) {
            if (WHOLE.matcher(begun + rest).matches()) {
                return true;
            }
        }
        return begun.isEmpty();
    }

    int firstError() {
        for (int i = 0; i < buffer.length(); i++) {
            if (!canGoOn(buffer.substring(0, i + 1))) {
                return i;
            }
        }
        return buffer.length();
    }

    int citeAll(int paragraph) {
        out(noParagraph(paragraph));
        argument(!WHOLE.matcher(buffer).matches());
        List<Cited> cited = new ArrayList<>();
        for (String one : buffer.toString().split(",")) {
            String letter = one.substring(0, one.indexOf('.'));
            int place = letter.length() == 1 ? letter.charAt(0) - 'A' : 26 + letter.charAt(1) - 'A';
            state(noPlace(place));
            cited.add(new Cited(now.exhibits.get(place).number, Integer.parseInt(one.substring(one.indexOf('.') + 1))));
        }
        save();
        int before = now.paragraphs.get(paragraph).size();
        now.paragraphs.set(paragraph, cited);
        buffer.setLength(0);
        return before;
    }

    int undo() {
        state(saved.isEmpty());
        now = saved.remove(saved.size() - 1);
        return saved.size();
    }

    int exhibit(int place, int what) {
        argument(place < 0 || outside(what, 0, 5));
        if (noPlace(place)) {
            return NONE;
        }
        Exhibit e = now.exhibits.get(place);
        List<Integer> binders = now.binders();
        int pagesAhead = now.exhibits.subList(0, place).stream().mapToInt(x -> x.pages).sum();
        int citations = now.paragraphs.stream()
                .mapToInt(p -> (int) p.stream().filter(c -> c.number == e.number).count()).sum();
        return switch (what) {
            case 0 -> e.number;
            case 1 -> e.pages;
            case 2 -> binders.get(place);
            case 3 -> place - binders.indexOf(binders.get(place));
            case 4 -> pagesAhead + place + 1 + 2 * binders.get(place);
            default -> citations;
        };
    }

    int citation(int paragraph, int citation, int what) {
        out(noParagraph(paragraph));
        argument(citation < 0 || outside(what, 0, 4));
        if (citation > now.paragraphs.get(paragraph).size() - 1) {
            return NONE;
        }
        Cited c = now.paragraphs.get(paragraph).get(citation);
        return switch (what) {
            case 0 -> c.number;
            case 1 -> now.letter(c.number);
            case 2 -> c.page;
            case 3 -> now.lost(c) ? 1 : 0;
            default -> now.lost(c) ? NONE : exhibit(now.letter(c.number), 4) + c.page - 1;
        };
    }

    int paragraph(int paragraph, int what) {
        out(noParagraph(paragraph));
        argument(outside(what, 0, 3));
        List<Printed> print = now.prints.get(paragraph);
        return switch (what) {
            case 0 -> now.paragraphs.get(paragraph).size();
            case 1 -> (int) now.paragraphs.get(paragraph).stream().filter(now::lost).count();
            case 2 -> now.stale(paragraph) ? 1 : 0;
            default -> print == null ? NONE : print.size();
        };
    }

    int table(int place) {
        out(noPlace(place));
        return now.tableOf(place);
    }

    private int uncited() {
        int n = 0;
        for (int place = 0; place < now.exhibits.size(); place++) {
            n += now.tableOf(place) == 0 ? 1 : 0;
        }
        return n;
    }

    int count(int what) {
        argument(outside(what, 0, 8));
        return switch (what) {
            case 0 -> now.exhibits.size();
            case 1 -> now.exhibits.stream().mapToInt(x -> x.pages).sum();
            case 2 -> now.binderCount();
            case 3 -> now.paragraphs.stream().mapToInt(List::size).sum();
            case 4 -> now.lostOnes();
            case 5 -> now.staleOnes();
            case 6 -> uncited();
            case 7 -> now.setting;
            default -> saved.size();
        };
    }

    int ifInserted(int place, int pages, int what) {
        out(outside(place, 0, now.exhibits.size()));
        argument(outside(pages, 1, 60) || outside(what, 0, 1));
        State then = now.copy();
        then.put(place, pages);
        return what == 0 ? then.staleOnes() : then.binderCount();
    }

    int ifDropped(int place, int what) {
        out(noPlace(place));
        argument(outside(what, 0, 1));
        State then = now.copy();
        then.exhibits.remove(place);
        return what == 0 ? then.lostOnes() - now.lostOnes() : then.staleOnes();
    }

    int bestMove(int place) {
        out(noPlace(place));
        int best = NONE;
        int least = Integer.MAX_VALUE;
        for (int to = 0; to < now.exhibits.size(); to++) {
            State then = now.copy();
            then.shift(place, to);
            int cost = then.staleOnes() * 100 + then.binderCount();
            if (cost < least) {
                best = to;
                least = cost;
            }
        }
        return best;
    }

    int leastPages(int binders) {
        argument(outside(binders, 1, 30));
        State then = now.copy();
        for (then.setting = 10; then.setting <= 200; then.setting++) {
            if (then.binderCount() <= binders) {
                return then.setting;
            }
        }
        return NONE;
    }

    double citedShare() {
        int n = now.exhibits.size();
        return n == 0 ? 1.0 : (double) (n - uncited()) / n;
    }

    long digest() {
        List<Long> values = new ArrayList<>();
        for (int what = 0; what < 9; what++) {
            values.add((long) count(what));
        }
        for (int place = 0; place < now.exhibits.size(); place++) {
            for (int what = 0; what < 6; what++) {
                values.add((long) exhibit(place, what));
            }
            values.add((long) table(place));
            values.add((long) ifDropped(place, 0));
            values.add((long) ifDropped(place, 1));
            values.add((long) bestMove(place));
        }
        for (int p = 0; p < 12; p++) {
            for (int what = 0; what < 4; what++) {
                values.add((long) paragraph(p, what));
            }
            for (int i = 0; i < now.paragraphs.get(p).size(); i++) {
                for (int what = 0; what < 5; what++) {
                    values.add((long) citation(p, i, what));
                }
            }
        }
        values.add((long) ifInserted(0, 5, 0));
        values.add((long) ifInserted(0, 5, 1));
        values.add((long) leastPages(2));
        values.add(Double.doubleToLongBits(citedShare()));
        values.add((long) buffer.length());
        buffer.chars().forEach(c -> values.add((long) c));
        long hash = 3137;
        for (long v : values) {
            hash = 31 * hash + v;
        }
        return hash;
    }
}
