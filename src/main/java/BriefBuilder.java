/** A legal brief builder: exhibits lettered by their order, tabs by binder, and citations that follow. */
public final class BriefBuilder {
    public static final int NONE = -1;

    private static final int MOST_EXHIBITS = 30;
    private static final int MOST_PAGES = 60;
    private static final int PARAGRAPHS = 12;
    private static final int MOST_CITATIONS = 6;
    private static final int ALL_CITATIONS = PARAGRAPHS * MOST_CITATIONS;
    private static final int LEAST_BINDER_PAGES = 10;
    private static final int MOST_BINDER_PAGES = 200;
    private static final int FIRST_BINDER_PAGES = 60;
    private static final int MOST_BINDERS_ASKED = 30;
    private static final int MOST_SAVED = 6;
    private static final int MOST_CHARACTERS = 60;
    private static final int LEAST_CODE = 33;
    private static final int MOST_CODE = 126;
    private static final long FIRST_HASH = 3137L;

    private final State state = new State();
    private final View view = new View();
    private final Trial trial = new Trial();
    private final History history = new History();
    private final Text text = new Text();
    private final int[] samePlaces = new int[MOST_EXHIBITS];

    public BriefBuilder() {
        for (int place = 0; place < MOST_EXHIBITS; place++) {
            samePlaces[place] = place;
        }
    }

    // ---- exhibits

    public int insert(int place, int pages)
            throws IndexOutOfBoundsException, IllegalArgumentException, IllegalStateException {
        Exhibits exhibits = state.exhibits;
        checkGap(place);
        checkPages(pages);
        checkRoomForExhibit();
        history.save(state);
        int number = exhibits.putNew(place, pages);
        view.follow(state);
        return number;
    }

    public int move(int place, int to) throws IndexOutOfBoundsException {
        Exhibits exhibits = state.exhibits;
        checkPlace(place);
        checkPlace(to);
        history.save(state);
        int number = exhibits.numbers[place];
        int pages = exhibits.pages[place];
        exhibits.takeOut(place);
        exhibits.putIn(to, number, pages);
        view.follow(state);
        return number;
    }

    public int drop(int place) throws IndexOutOfBoundsException {
        checkPlace(place);
        history.save(state);
        int lost = goodCitationsOf(place);
        state.exhibits.takeOut(place);
        view.follow(state);
        return lost;
    }

    public int pages(int place, int pages) throws IndexOutOfBoundsException, IllegalArgumentException {
        checkPlace(place);
        checkPages(pages);
        history.save(state);
        int previous = state.exhibits.pages[place];
        state.exhibits.pages[place] = pages;
        view.follow(state);
        return previous;
    }

    public int join(int place) throws IndexOutOfBoundsException, IllegalStateException {
        Exhibits exhibits = state.exhibits;
        checkPlace(place);
        if (place >= exhibits.count - 1) {
            throw new IndexOutOfBoundsException("there is no exhibit behind this one");
        }
        int ownPages = exhibits.pages[place];
        int joinedPages = ownPages + exhibits.pages[place + 1];
        if (joinedPages > MOST_PAGES) {
            throw new IllegalStateException("the exhibit would have too many pages");
        }
        history.save(state);
        state.citations.followJoin(exhibits.numbers[place + 1], exhibits.numbers[place], ownPages);
        exhibits.takeOut(place + 1);
        exhibits.pages[place] = joinedPages;
        view.follow(state);
        return joinedPages;
    }

    public int split(int place, int page)
            throws IndexOutOfBoundsException, IllegalArgumentException, IllegalStateException {
        Exhibits exhibits = state.exhibits;
        checkPlace(place);
        int allPages = exhibits.pages[place];
        if (page < 1 || page >= allPages) {
            throw new IllegalArgumentException("the exhibit can't be split behind this page");
        }
        checkRoomForExhibit();
        history.save(state);
        int number = exhibits.putNew(place + 1, allPages - page);
        exhibits.pages[place] = page;
        state.citations.followSplit(exhibits.numbers[place], number, page);
        view.follow(state);
        return number;
    }

    // ---- citations

    public int cite(int paragraph, int place, int page)
            throws IndexOutOfBoundsException, IllegalArgumentException, IllegalStateException {
        Citations citations = state.citations;
        checkParagraph(paragraph);
        checkPlace(place);
        checkPages(page);
        if (citations.counts[paragraph] >= MOST_CITATIONS) {
            throw new IllegalStateException("the paragraph has all citations that it may have");
        }
        history.save(state);
        citations.add(paragraph, state.exhibits.numbers[place], page);
        view.follow(state);
        return citations.counts[paragraph];
    }

    public int clean(int paragraph) throws IndexOutOfBoundsException {
        checkParagraph(paragraph);
        history.save(state);
        int taken = state.citations.takeOutLost(paragraph, view.lost);
        view.follow(state);
        return taken;
    }

    public int print(int paragraph) throws IndexOutOfBoundsException {
        checkParagraph(paragraph);
        history.save(state);
        int wasStale = isStale(paragraph, samePlaces) ? 1 : 0;
        int citations = state.citations.counts[paragraph];
        state.prints.counts[paragraph] = citations;
        for (int i = 0; i < citations; i++) {
            int cell = cellOf(paragraph, i);
            state.prints.marks[cell] = markOf(view.letters[cell], state.citations.pages[cell], view.lost[cell]);
        }
        return wasStale;
    }

    public int set(int pages) throws IllegalArgumentException {
        if (pages < LEAST_BINDER_PAGES || pages > MOST_BINDER_PAGES) {
            throw new IllegalArgumentException("a binder can't take so many pages");
        }
        history.save(state);
        int previous = state.exhibits.binderPages;
        state.exhibits.binderPages = pages;
        view.follow(state);
        return previous;
    }

    // ---- texts

    public int append(int code) throws IllegalArgumentException, IllegalStateException {
        if (code < LEAST_CODE || code > MOST_CODE) {
            throw new IllegalArgumentException("the buffer takes no such character");
        }
        if (text.length >= MOST_CHARACTERS) {
            throw new IllegalStateException("the buffer is full");
        }
        text.add(code);
        return text.length;
    }

    public int clearBuffer() {
        int length = text.length;
        text.length = 0;
        return length;
    }

    public int firstError() {
        return text.read();
    }

    public int citeAll(int paragraph)
            throws IndexOutOfBoundsException, IllegalArgumentException, IllegalStateException {
        checkParagraph(paragraph);
        text.read();
        if (!text.isComplete()) {
            throw new IllegalArgumentException("the buffer is not complete citations as a text");
        }
        for (int i = 0; i <= text.current; i++) {
            if (text.places[i] >= state.exhibits.count) {
                throw new IllegalStateException("there is no exhibit with a letter in the buffer");
            }
        }
        history.save(state);
        int previous = state.citations.counts[paragraph];
        state.citations.counts[paragraph] = 0;
        for (int i = 0; i <= text.current; i++) {
            state.citations.add(paragraph, state.exhibits.numbers[text.places[i]], text.pages[i]);
        }
        text.length = 0;
        view.follow(state);
        return previous;
    }

    public int undo() throws IllegalStateException {
        if (history.count == 0) {
            throw new IllegalStateException("there is no saved state");
        }
        history.restore(state);
        view.follow(state);
        return history.count;
    }

    // ---- looks; nothing is changed

    public int exhibit(int place, int what) throws IllegalArgumentException {
        if (place < 0) {
            throw new IllegalArgumentException("places are numbered from 0");
        }
        checkWhat(what, 5);
        if (place >= state.exhibits.count) {
            return NONE;
        }
        switch (what) {
            case 0:
                return state.exhibits.numbers[place];
            case 1:
                return state.exhibits.pages[place];
            case 2:
                return view.binders[place];
            case 3:
                return view.tabs[place];
            case 4:
                return view.firstPages[place];
            default:
                return citationsOf(place);
        }
    }

    public int citation(int paragraph, int citation, int what)
            throws IndexOutOfBoundsException, IllegalArgumentException {
        checkParagraph(paragraph);
        if (citation < 0) {
            throw new IllegalArgumentException("citations are numbered from 0");
        }
        checkWhat(what, 4);
        if (citation >= state.citations.counts[paragraph]) {
            return NONE;
        }
        int cell = cellOf(paragraph, citation);
        switch (what) {
            case 0:
                return state.citations.numbers[cell];
            case 1:
                return view.letters[cell];
            case 2:
                return state.citations.pages[cell];
            case 3:
                return view.lost[cell] ? 1 : 0;
            default:
                return pageInBrief(cell);
        }
    }

    public int paragraph(int paragraph, int what) throws IndexOutOfBoundsException, IllegalArgumentException {
        checkParagraph(paragraph);
        checkWhat(what, 3);
        switch (what) {
            case 0:
                return state.citations.counts[paragraph];
            case 1:
                return lostIn(paragraph);
            case 2:
                return isStale(paragraph, samePlaces) ? 1 : 0;
            default:
                return state.prints.counts[paragraph];
        }
    }

    public int table(int place) throws IndexOutOfBoundsException {
        checkPlace(place);
        int mask = 0;
        for (int paragraph = 0; paragraph < PARAGRAPHS; paragraph++) {
            if (goodCitationsIn(paragraph, place) > 0) {
                mask |= 1 << paragraph;
            }
        }
        return mask;
    }

    public int count(int what) throws IllegalArgumentException {
        checkWhat(what, 8);
        switch (what) {
            case 0:
                return state.exhibits.count;
            case 1:
                return state.exhibits.sumOfPages();
            case 2:
                return view.binderCount;
            case 3:
                return allCitations();
            case 4:
                return allLost();
            case 5:
                return staleWith(samePlaces);
            case 6:
                return state.exhibits.count - citedExhibits();
            case 7:
                return state.exhibits.binderPages;
            default:
                return history.count;
        }
    }

    // ---- what would be; nothing is changed

    public int ifInserted(int place, int pages, int what)
            throws IndexOutOfBoundsException, IllegalArgumentException {
        checkGap(place);
        checkPages(pages);
        checkWhat(what, 1);
        trial.insertOne(state.exhibits, place, pages);
        return what == 0 ? staleWith(trial.newPlaces) : trialBinders();
    }

    public int ifDropped(int place, int what) throws IndexOutOfBoundsException, IllegalArgumentException {
        checkPlace(place);
        checkWhat(what, 1);
        if (what == 0) {
            return goodCitationsOf(place);
        }
        trial.dropOne(state.exhibits, place);
        return staleWith(trial.newPlaces);
    }

    public int bestMove(int place) throws IndexOutOfBoundsException {
        checkPlace(place);
        int best = NONE;
        int fewestStale = PARAGRAPHS + 1;
        int fewestBinders = MOST_EXHIBITS + 1;
        for (int to = 0; to < state.exhibits.count; to++) {
            trial.moveOne(state.exhibits, place, to);
            int stale = staleWith(trial.newPlaces);
            if (stale > fewestStale) {
                continue;
            }
            int binders = trialBinders();
            if (stale < fewestStale || binders < fewestBinders) {
                best = to;
                fewestStale = stale;
                fewestBinders = binders;
            }
        }
        return best;
    }

    public int leastPages(int binders) throws IllegalArgumentException {
        if (binders < 1 || binders > MOST_BINDERS_ASKED) {
            throw new IllegalArgumentException("there can't be so many binders");
        }
        Exhibits exhibits = state.exhibits;
        for (int limit = LEAST_BINDER_PAGES; limit <= MOST_BINDER_PAGES; limit++) {
            if (bindersFor(exhibits.pages, exhibits.count, limit) <= binders) {
                return limit;
            }
        }
        return NONE;
    }

    public double citedShare() {
        if (state.exhibits.count == 0) {
            return 1.0;
        }
        return (double) citedExhibits() / state.exhibits.count;
    }

    public long digest() {
        long hash = FIRST_HASH;
        for (int what = 0; what <= 8; what++) {
            hash = mixed(hash, count(what));
        }
        for (int place = 0; place < state.exhibits.count; place++) {
            hash = mixedWithExhibit(hash, place);
        }
        for (int paragraph = 0; paragraph < PARAGRAPHS; paragraph++) {
            hash = mixedWithParagraph(hash, paragraph);
        }
        hash = mixed(hash, ifInserted(0, 5, 0));
        hash = mixed(hash, ifInserted(0, 5, 1));
        hash = mixed(hash, leastPages(2));
        hash = mixed(hash, bitsOfShare(citedShare()));
        hash = mixed(hash, text.length);
        for (int i = 0; i < text.length; i++) {
            hash = mixed(hash, text.codes[i]);
        }
        return hash;
    }

    private long mixedWithExhibit(long before, int place) {
        long hash = before;
        for (int what = 0; what <= 5; what++) {
            hash = mixed(hash, exhibit(place, what));
        }
        hash = mixed(hash, table(place));
        hash = mixed(hash, ifDropped(place, 0));
        hash = mixed(hash, ifDropped(place, 1));
        return mixed(hash, bestMove(place));
    }

    private long mixedWithParagraph(long before, int paragraph) {
        long hash = before;
        for (int what = 0; what <= 3; what++) {
            hash = mixed(hash, paragraph(paragraph, what));
        }
        for (int i = 0; i < state.citations.counts[paragraph]; i++) {
            for (int what = 0; what <= 4; what++) {
                hash = mixed(hash, citation(paragraph, i, what));
            }
        }
        return hash;
    }

    private static long mixed(long hash, long value) {
        return 31L * hash + value;
    }

    /** Double.doubleToLongBits is outside the language: a share is 0.0, or between 2 to the -63 and 1.0. */
    private static long bitsOfShare(double share) {
        if (share <= 0.0) {
            return 0L;
        }
        double fraction = share;
        long exponent = 1023L;
        for (int i = 0; i < 63 && fraction < 1.0; i++) {
            fraction = fraction * 2.0;
            exponent--;
        }
        long mantissa = (long) ((fraction - 1.0) * (double) (1L << 52));
        return (exponent << 52) | mantissa;
    }

    private void checkPlace(int place) {
        if (place < 0 || place >= state.exhibits.count) {
            throw new IndexOutOfBoundsException("there is no exhibit at this place");
        }
    }

    private void checkGap(int place) {
        if (place < 0 || place > state.exhibits.count) {
            throw new IndexOutOfBoundsException("no exhibit can be put at this place");
        }
    }

    private void checkRoomForExhibit() {
        if (state.exhibits.count >= MOST_EXHIBITS) {
            throw new IllegalStateException("there are all exhibits that there may be");
        }
    }

    private static void checkParagraph(int paragraph) {
        if (paragraph < 0 || paragraph >= PARAGRAPHS) {
            throw new IndexOutOfBoundsException("there is no such paragraph");
        }
    }

    private static void checkPages(int pages) {
        if (pages < 1 || pages > MOST_PAGES) {
            throw new IllegalArgumentException("pages are 1 to 60");
        }
    }

    private static void checkWhat(int what, int most) {
        if (what < 0 || what > most) {
            throw new IllegalArgumentException("there is no such number to tell");
        }
    }

    private static int cellOf(int paragraph, int citation) {
        return paragraph * MOST_CITATIONS + citation;
    }

    /** All that is printed of a citation, in one number. */
    private static int markOf(int letter, int page, boolean lost) {
        return ((letter + 1) * (MOST_PAGES + 1) + page) * 2 + (lost ? 1 : 0);
    }

    private int pageInBrief(int cell) {
        int letter = view.letters[cell];
        if (letter == NONE || view.lost[cell]) {
            return NONE;
        }
        return view.firstPages[letter] + state.citations.pages[cell] - 1;
    }

    private int citationsOf(int place) {
        int found = 0;
        for (int paragraph = 0; paragraph < PARAGRAPHS; paragraph++) {
            for (int i = 0; i < state.citations.counts[paragraph]; i++) {
                if (view.letters[cellOf(paragraph, i)] == place) {
                    found++;
                }
            }
        }
        return found;
    }

    private int goodCitationsOf(int place) {
        int found = 0;
        for (int paragraph = 0; paragraph < PARAGRAPHS; paragraph++) {
            found += goodCitationsIn(paragraph, place);
        }
        return found;
    }

    private int goodCitationsIn(int paragraph, int place) {
        int found = 0;
        for (int i = 0; i < state.citations.counts[paragraph]; i++) {
            int cell = cellOf(paragraph, i);
            if (view.letters[cell] == place && !view.lost[cell]) {
                found++;
            }
        }
        return found;
    }

    private int citedExhibits() {
        int cited = 0;
        for (int place = 0; place < state.exhibits.count; place++) {
            if (goodCitationsOf(place) > 0) {
                cited++;
            }
        }
        return cited;
    }

    private int allCitations() {
        int sum = 0;
        for (int paragraph = 0; paragraph < PARAGRAPHS; paragraph++) {
            sum += state.citations.counts[paragraph];
        }
        return sum;
    }

    private int allLost() {
        int sum = 0;
        for (int paragraph = 0; paragraph < PARAGRAPHS; paragraph++) {
            sum += lostIn(paragraph);
        }
        return sum;
    }

    private int lostIn(int paragraph) {
        int found = 0;
        for (int i = 0; i < state.citations.counts[paragraph]; i++) {
            if (view.lost[cellOf(paragraph, i)]) {
                found++;
            }
        }
        return found;
    }

    private int staleWith(int[] newPlaces) {
        int found = 0;
        for (int paragraph = 0; paragraph < PARAGRAPHS; paragraph++) {
            if (isStale(paragraph, newPlaces)) {
                found++;
            }
        }
        return found;
    }

    /** Whether a paragraph is stale if the exhibit at each place of now stood at its new place. */
    private boolean isStale(int paragraph, int[] newPlaces) {
        int citations = state.citations.counts[paragraph];
        if (state.prints.counts[paragraph] != citations) {
            return true;
        }
        for (int i = 0; i < citations; i++) {
            int cell = cellOf(paragraph, i);
            int letter = view.letters[cell];
            int newLetter = letter == NONE ? NONE : newPlaces[letter];
            boolean lost = newLetter == NONE || view.lost[cell];
            if (markOf(newLetter, state.citations.pages[cell], lost) != state.prints.marks[cell]) {
                return true;
            }
        }
        return false;
    }

    private int trialBinders() {
        return bindersFor(trial.pages, trial.count, state.exhibits.binderPages);
    }

    private static int bindersFor(int[] pages, int count, int limit) {
        int binders = 0;
        int inBinder = 0;
        for (int place = 0; place < count; place++) {
            if (place == 0 || inBinder + pages[place] > limit) {
                binders++;
                inBinder = 0;
            }
            inBinder += pages[place];
        }
        return binders;
    }

    /** The exhibits in their order, and what binders take. */
    private static final class Exhibits {
        final int[] numbers = new int[MOST_EXHIBITS];
        final int[] pages = new int[MOST_EXHIBITS];
        int count = 0;
        int nextNumber = 0;
        int binderPages = FIRST_BINDER_PAGES;

        void copyFrom(Exhibits other) {
            System.arraycopy(other.numbers, 0, numbers, 0, MOST_EXHIBITS);
            System.arraycopy(other.pages, 0, pages, 0, MOST_EXHIBITS);
            count = other.count;
            nextNumber = other.nextNumber;
            binderPages = other.binderPages;
        }

        int putNew(int place, int itsPages) {
            int number = nextNumber;
            nextNumber++;
            putIn(place, number, itsPages);
            return number;
        }

        void putIn(int place, int number, int itsPages) {
            for (int i = count; i > place; i--) {
                numbers[i] = numbers[i - 1];
                pages[i] = pages[i - 1];
            }
            numbers[place] = number;
            pages[place] = itsPages;
            count++;
        }

        void takeOut(int place) {
            count--;
            for (int i = place; i < count; i++) {
                numbers[i] = numbers[i + 1];
                pages[i] = pages[i + 1];
            }
        }

        int placeOf(int number) {
            for (int place = 0; place < count; place++) {
                if (numbers[place] == number) {
                    return place;
                }
            }
            return NONE;
        }

        int sumOfPages() {
            int sum = 0;
            for (int place = 0; place < count; place++) {
                sum += pages[place];
            }
            return sum;
        }
    }

    /** The citations of all paragraphs; each paragraph has a row of cells. */
    private static final class Citations {
        final int[] counts = new int[PARAGRAPHS];
        final int[] numbers = new int[ALL_CITATIONS];
        final int[] pages = new int[ALL_CITATIONS];

        void copyFrom(Citations other) {
            System.arraycopy(other.counts, 0, counts, 0, PARAGRAPHS);
            System.arraycopy(other.numbers, 0, numbers, 0, ALL_CITATIONS);
            System.arraycopy(other.pages, 0, pages, 0, ALL_CITATIONS);
        }

        void add(int paragraph, int number, int page) {
            int cell = cellOf(paragraph, counts[paragraph]);
            numbers[cell] = number;
            pages[cell] = page;
            counts[paragraph]++;
        }

        int takeOutLost(int paragraph, boolean[] lost) {
            int before = counts[paragraph];
            counts[paragraph] = 0;
            for (int i = 0; i < before; i++) {
                int cell = cellOf(paragraph, i);
                if (!lost[cell]) {
                    add(paragraph, numbers[cell], pages[cell]);
                }
            }
            return before - counts[paragraph];
        }

        void followJoin(int gone, int joined, int pagesAhead) {
            for (int paragraph = 0; paragraph < PARAGRAPHS; paragraph++) {
                for (int i = 0; i < counts[paragraph]; i++) {
                    int cell = cellOf(paragraph, i);
                    if (numbers[cell] == gone && pages[cell] + pagesAhead <= MOST_PAGES) {
                        numbers[cell] = joined;
                        pages[cell] += pagesAhead;
                    }
                }
            }
        }

        void followSplit(int whole, int rest, int pagesAhead) {
            for (int paragraph = 0; paragraph < PARAGRAPHS; paragraph++) {
                for (int i = 0; i < counts[paragraph]; i++) {
                    int cell = cellOf(paragraph, i);
                    if (numbers[cell] == whole && pages[cell] > pagesAhead) {
                        numbers[cell] = rest;
                        pages[cell] -= pagesAhead;
                    }
                }
            }
        }
    }

    /** How each paragraph was printed last: how many citations, and the mark of each. */
    private static final class Prints {
        final int[] counts = new int[PARAGRAPHS];
        final int[] marks = new int[ALL_CITATIONS];

        Prints() {
            for (int paragraph = 0; paragraph < PARAGRAPHS; paragraph++) {
                counts[paragraph] = NONE;
            }
        }

        void copyFrom(Prints other) {
            System.arraycopy(other.counts, 0, counts, 0, PARAGRAPHS);
            System.arraycopy(other.marks, 0, marks, 0, ALL_CITATIONS);
        }
    }

    /** All that undo restores. */
    private static final class State {
        final Exhibits exhibits = new Exhibits();
        final Citations citations = new Citations();
        final Prints prints = new Prints();

        void copyFrom(State other) {
            exhibits.copyFrom(other.exhibits);
            citations.copyFrom(other.citations);
            prints.copyFrom(other.prints);
        }
    }

    /** What follows from the state; kept, because the looks and trials ask for it again and again. */
    private static final class View {
        final int[] binders = new int[MOST_EXHIBITS];
        final int[] tabs = new int[MOST_EXHIBITS];
        final int[] firstPages = new int[MOST_EXHIBITS];
        final int[] letters = new int[ALL_CITATIONS];
        final boolean[] lost = new boolean[ALL_CITATIONS];
        int binderCount = 0;

        void follow(State state) {
            followExhibits(state.exhibits);
            followCitations(state.citations, state.exhibits);
        }

        private void followExhibits(Exhibits exhibits) {
            int binder = NONE;
            int inBinder = 0;
            int tab = 0;
            int pagesAhead = 0;
            for (int place = 0; place < exhibits.count; place++) {
                int pages = exhibits.pages[place];
                if (place == 0 || inBinder + pages > exhibits.binderPages) {
                    binder++;
                    inBinder = 0;
                    tab = 0;
                }
                binders[place] = binder;
                tabs[place] = tab;
                firstPages[place] = pagesAhead + place + 1 + 2 * binder;
                tab++;
                inBinder += pages;
                pagesAhead += pages;
            }
            binderCount = binder + 1;
        }

        private void followCitations(Citations citations, Exhibits exhibits) {
            for (int paragraph = 0; paragraph < PARAGRAPHS; paragraph++) {
                for (int i = 0; i < citations.counts[paragraph]; i++) {
                    int cell = cellOf(paragraph, i);
                    int letter = exhibits.placeOf(citations.numbers[cell]);
                    letters[cell] = letter;
                    lost[cell] = letter == NONE || citations.pages[cell] > exhibits.pages[letter];
                }
            }
        }
    }

    /** An order of exhibits that would be: where each exhibit of now would stand, and the pages in that order. */
    private static final class Trial {
        final int[] newPlaces = new int[MOST_EXHIBITS];
        final int[] pages = new int[MOST_EXHIBITS + 1];
        int count = 0;

        void insertOne(Exhibits exhibits, int place, int itsPages) {
            for (int old = 0; old < exhibits.count; old++) {
                newPlaces[old] = old < place ? old : old + 1;
            }
            layPages(exhibits);
            pages[place] = itsPages;
            count = exhibits.count + 1;
        }

        void dropOne(Exhibits exhibits, int place) {
            for (int old = 0; old < exhibits.count; old++) {
                newPlaces[old] = old < place ? old : old - 1;
            }
            newPlaces[place] = NONE;
            layPages(exhibits);
            count = exhibits.count - 1;
        }

        void moveOne(Exhibits exhibits, int place, int to) {
            for (int old = 0; old < exhibits.count; old++) {
                int taken = old < place ? old : old - 1;
                newPlaces[old] = taken < to ? taken : taken + 1;
            }
            newPlaces[place] = to;
            layPages(exhibits);
            count = exhibits.count;
        }

        private void layPages(Exhibits exhibits) {
            for (int old = 0; old < exhibits.count; old++) {
                if (newPlaces[old] != NONE) {
                    pages[newPlaces[old]] = exhibits.pages[old];
                }
            }
        }
    }

    /** The saved states, in a ring of rows that are used again. */
    private static final class History {
        private final State[] states = new State[MOST_SAVED];
        private int oldest = 0;
        int count = 0;

        History() {
            for (int i = 0; i < MOST_SAVED; i++) {
                states[i] = new State();
            }
        }

        void save(State state) {
            if (count == MOST_SAVED) {
                oldest = (oldest + 1) % MOST_SAVED;
                count--;
            }
            states[(oldest + count) % MOST_SAVED].copyFrom(state);
            count++;
        }

        void restore(State state) {
            count--;
            state.copyFrom(states[(oldest + count) % MOST_SAVED]);
        }
    }

    /** The buffer, and its reading as citations. */
    private static final class Text {
        private static final int ERROR = 0;
        private static final int AT_LETTER = 1;
        private static final int BEHIND_A = 2;
        private static final int AT_DOT = 3;
        private static final int AT_PAGE = 4;
        private static final int BEHIND_DIGIT = 5;
        private static final int BEHIND_PAGE = 6;

        final int[] codes = new int[MOST_CHARACTERS];
        int length = 0;
        final int[] places = new int[MOST_CITATIONS];
        final int[] pages = new int[MOST_CITATIONS];
        int current = 0;
        private int step = AT_LETTER;

        void add(int code) {
            codes[length] = code;
            length++;
        }

        /** Reads the buffer, and returns the index of the first error, or the length. */
        int read() {
            current = 0;
            step = AT_LETTER;
            for (int i = 0; i < length; i++) {
                step = stepBehind(codes[i]);
                if (step == ERROR) {
                    return i;
                }
            }
            return length;
        }

        boolean isComplete() {
            return step == BEHIND_DIGIT || step == BEHIND_PAGE;
        }

        private int stepBehind(int code) {
            switch (step) {
                case AT_LETTER:
                    return readLetter(code);
                case BEHIND_A:
                    return readSecondLetter(code);
                case AT_DOT:
                    return code == '.' ? AT_PAGE : ERROR;
                case AT_PAGE:
                    return readDigit(code);
                case BEHIND_DIGIT:
                    return readSecondDigit(code);
                default:
                    return readComma(code);
            }
        }

        private int readLetter(int code) {
            if (code < 'A' || code > 'Z') {
                return ERROR;
            }
            places[current] = code - 'A';
            return code == 'A' ? BEHIND_A : AT_DOT;
        }

        private int readSecondLetter(int code) {
            if (code == '.') {
                return AT_PAGE;
            }
            if (code < 'A' || code > 'D') {
                return ERROR;
            }
            places[current] = 26 + code - 'A';
            return AT_DOT;
        }

        private int readDigit(int code) {
            if (code < '1' || code > '9') {
                return ERROR;
            }
            pages[current] = code - '0';
            return BEHIND_DIGIT;
        }

        private int readSecondDigit(int code) {
            if (code < '0' || code > '9') {
                return readComma(code);
            }
            int page = pages[current] * 10 + code - '0';
            if (page > MOST_PAGES) {
                return ERROR;
            }
            pages[current] = page;
            return BEHIND_PAGE;
        }

        private int readComma(int code) {
            if (code != ',' || current >= MOST_CITATIONS - 1) {
                return ERROR;
            }
            current++;
            return AT_LETTER;
        }
    }
}
