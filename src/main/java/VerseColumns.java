/**
 * Two books of verses that are numbered unlike, set side by side. The document ../shared/DOC.md says
 * what each call does; every row that a call needs is made with the object and used again.
 */
public final class VerseColumns {
    /** There is no such book, chapter, verse or group. */
    public static final int UNKNOWN = -1;
    /** Another argument is out of range. */
    public static final int BAD_VALUE = -2;
    /** There is no more room. */
    public static final int FULL = -3;
    /** This is not possible. */
    public static final int NOT_POSSIBLE = -4;
    /** There is no such thing; not an error. */
    public static final int NONE = -5;

    private static final int LEFT = 0;
    private static final int RIGHT = 1;
    private static final int MAX_CHAPTERS = 10;
    private static final int MAX_VERSES = 60;
    private static final int MAX_LETTERS = 2000;
    private static final int MAX_NOTE = 10;
    // Each group has at least one verse of one of both books.
    private static final int MAX_GROUPS = 2 * MAX_VERSES;
    private static final int MAX_STATES = 5;
    private static final int MAX_TEXT = 80;
    private static final int MIN_WIDTH = 10;
    private static final int MAX_WIDTH = 200;
    private static final int MIN_PAGE_HEIGHT = 5;
    private static final int MAX_PAGE_HEIGHT = 200;
    private static final int MAX_HEADING = 5;
    private static final int FAULT_BASE = -100;
    private static final int NO_FAULT = -1;
    private static final int NOWHERE = -1;

    private final State state;
    private final History history;
    private final Text text;
    private final ReferenceReader referenceReader;
    private final MapReader mapReader;
    private final Reach reach;
    private final Layout layout;

    public VerseColumns() {
        state = new State();
        history = new History();
        text = new Text();
        referenceReader = new ReferenceReader();
        mapReader = new MapReader();
        reach = new Reach();
        layout = new Layout();
    }

    // ---- books

    public int addChapter(int book, int verses, int letters) {
        if (!isBook(book)) {
            return UNKNOWN;
        }
        if (!isWithin(verses, 1, MAX_VERSES) || !isWithin(letters, 1, MAX_LETTERS)) {
            return BAD_VALUE;
        }
        Book changed = state.bookOf(book);
        int chapter = changed.chapterTotal() + 1;
        if (chapter > MAX_CHAPTERS || changed.verses + verses > MAX_VERSES) {
            return FULL;
        }
        history.record(state);
        for (int i = 0; i < verses; i++) {
            changed.insertAt(changed.verses, chapter, letters, 0);
            state.map.append(book == LEFT ? 1 : 0, book == RIGHT ? 1 : 0);
        }
        return chapter;
    }

    public int setVerse(int book, int verse, int letters, int note) {
        if (!isVerse(book, verse)) {
            return UNKNOWN;
        }
        if (!isWithin(letters, 1, MAX_LETTERS) || !isWithin(note, 0, MAX_NOTE)) {
            return BAD_VALUE;
        }
        history.record(state);
        Book changed = state.bookOf(book);
        int previous = changed.lettersOf(verse);
        changed.put(verse, letters, note);
        return previous;
    }

    public int joinVerses(int book, int verse) {
        if (!isVerse(book, verse)) {
            return UNKNOWN;
        }
        Book changed = state.bookOf(book);
        if (changed.chapterOf(verse) != changed.chapterOf(verse + 1)) {
            return NOT_POSSIBLE;
        }
        history.record(state);
        int group = state.map.groupOf(book, verse);
        state.map.merge(group, state.map.groupOf(book, verse + 1));
        state.map.resize(group, book, -1);
        changed.joinWithNext(verse);
        return changed.verses;
    }

    public int splitVerse(int book, int verse, int letters) {
        if (!isVerse(book, verse)) {
            return UNKNOWN;
        }
        if (!isWithin(letters, 1, MAX_LETTERS - 1)) {
            return BAD_VALUE;
        }
        Book changed = state.bookOf(book);
        if (letters >= changed.lettersOf(verse)) {
            return NOT_POSSIBLE;
        }
        if (changed.verses >= MAX_VERSES) {
            return FULL;
        }
        history.record(state);
        state.map.resize(state.map.groupOf(book, verse), book, 1);
        changed.splitBehind(verse, letters);
        return changed.verses;
    }

    // ---- map

    public int link(int group) {
        if (!state.map.has(group)) {
            return UNKNOWN;
        }
        if (!state.map.has(group + 1)) {
            return NOT_POSSIBLE;
        }
        history.record(state);
        state.map.merge(group, group + 1);
        return state.map.groups;
    }

    public int part(int group, int left, int right) {
        if (!state.map.has(group)) {
            return UNKNOWN;
        }
        if (!isWithin(left, 0, MAX_VERSES) || !isWithin(right, 0, MAX_VERSES)) {
            return BAD_VALUE;
        }
        int leftRest = state.map.sizeOf(group, LEFT) - left;
        int rightRest = state.map.sizeOf(group, RIGHT) - right;
        if (leftRest < 0 || rightRest < 0 || left + right == 0 || leftRest + rightRest == 0) {
            return NOT_POSSIBLE;
        }
        history.record(state);
        state.map.cut(group, left, right);
        return state.map.groups;
    }

    public int readMap() {
        int fault = mapReader.read(text, state);
        if (fault != NO_FAULT) {
            return FAULT_BASE - fault;
        }
        history.record(state);
        state.map.copyFrom(mapReader.map);
        return state.map.groups;
    }

    public int pairAll() {
        history.record(state);
        state.map.clear();
        int longest = Math.max(state.left.verses, state.right.verses);
        for (int i = 0; i < longest; i++) {
            state.map.append(i < state.left.verses ? 1 : 0, i < state.right.verses ? 1 : 0);
        }
        return state.map.groups;
    }

    public int exchange() {
        history.record(state);
        state.swapBooks();
        return state.map.alikeTotal();
    }

    public int undo() {
        if (history.states == 0) {
            return NONE;
        }
        history.restore(state);
        return history.states;
    }

    // ---- text and references

    public int type(char character) {
        return text.append(character) ? text.length : FULL;
    }

    public int clearText() {
        int previous = text.length;
        text.clear();
        return previous;
    }

    public int refer(int book, int what) {
        if (!isBook(book)) {
            return UNKNOWN;
        }
        if (!isWithin(what, 0, 6)) {
            return BAD_VALUE;
        }
        int fault = referenceReader.read(text, state.bookOf(book));
        if (fault != NO_FAULT) {
            return FAULT_BASE - fault;
        }
        reach.measure(state.map, book, referenceReader.first, referenceReader.last);
        return reach.property(what);
    }

    public int beside(int book, int verse, int what) {
        if (!isVerse(book, verse)) {
            return UNKNOWN;
        }
        if (!isWithin(what, 0, 2)) {
            return BAD_VALUE;
        }
        int group = state.map.groupOf(book, verse);
        if (what == 0) {
            return group;
        }
        int other = otherBook(book);
        int size = state.map.sizeOf(group, other);
        if (size == 0) {
            return NONE;
        }
        int first = state.map.firstOf(group, other);
        return what == 1 ? first : first + size - 1;
    }

    // ---- pages

    public int setWidth(int book, int width) {
        if (!isBook(book)) {
            return UNKNOWN;
        }
        if (!isWithin(width, MIN_WIDTH, MAX_WIDTH)) {
            return BAD_VALUE;
        }
        int previous = layout.widthOf(book);
        layout.changeWidth(book, width);
        return previous;
    }

    public int setHeights(int page, int heading) {
        if (!isWithin(page, MIN_PAGE_HEIGHT, MAX_PAGE_HEIGHT) || !isWithin(heading, 0, MAX_HEADING)) {
            return BAD_VALUE;
        }
        int previous = layout.pageHeight;
        layout.pageHeight = page;
        layout.headingHeight = heading;
        return previous;
    }

    public int page(int page, int what) {
        if (page < 0 || !isWithin(what, 0, 4)) {
            return BAD_VALUE;
        }
        layout.arrange(state);
        if (page >= layout.pages) {
            return NONE;
        }
        switch (what) {
            case 0:
                return layout.firstGroupOf(page);
            case 1:
                return layout.lastGroupOf(page);
            case 2:
                return layout.heightSumOf(page);
            case 3:
                return layout.noteLinesOf(page);
            default:
                return layout.overflows(page) ? 1 : 0;
        }
    }

    // ---- what there is

    public int chapter(int book, int chapter, int what) {
        if (!isBook(book) || !isWithin(chapter, 1, state.bookOf(book).chapterTotal())) {
            return UNKNOWN;
        }
        if (!isWithin(what, 0, 2)) {
            return BAD_VALUE;
        }
        Book asked = state.bookOf(book);
        switch (what) {
            case 0:
                return asked.firstOf(chapter);
            case 1:
                return asked.versesOf(chapter);
            default:
                return asked.letterSumOf(chapter);
        }
    }

    public int verse(int book, int verse, int what) {
        if (!isVerse(book, verse)) {
            return UNKNOWN;
        }
        if (!isWithin(what, 0, 4)) {
            return BAD_VALUE;
        }
        Book asked = state.bookOf(book);
        switch (what) {
            case 0:
                return asked.chapterOf(verse);
            case 1:
                return asked.numberOf(verse);
            case 2:
                return asked.lettersOf(verse);
            case 3:
                return asked.noteOf(verse);
            default:
                return linesFor(asked.lettersOf(verse), layout.widthOf(book));
        }
    }

    public int group(int group, int what) {
        if (!state.map.has(group)) {
            return UNKNOWN;
        }
        if (!isWithin(what, 0, 8)) {
            return BAD_VALUE;
        }
        if (what >= 5) {
            layout.arrange(state);
        }
        switch (what) {
            case 0:
                return state.map.kindOf(group);
            case 1:
                return firstVerseOrNone(group, LEFT);
            case 2:
                return state.map.sizeOf(group, LEFT);
            case 3:
                return firstVerseOrNone(group, RIGHT);
            case 4:
                return state.map.sizeOf(group, RIGHT);
            case 5:
                return layout.heightOf(group);
            case 6:
                return layout.pageOf(group);
            case 7:
                return layout.lineOf(group);
            default:
                return layout.notesOf(group);
        }
    }

    public int count(int what) {
        if (!isWithin(what, 0, 11)) {
            return BAD_VALUE;
        }
        switch (what) {
            case 0:
                return state.left.chapterTotal();
            case 1:
                return state.right.chapterTotal();
            case 2:
                return state.left.verses;
            case 3:
                return state.right.verses;
            case 4:
                return state.map.groups;
            case 9:
                layout.arrange(state);
                return layout.pages;
            case 10:
                layout.arrange(state);
                return layout.emptyLines;
            case 11:
                return history.states;
            default:
                return state.map.kindTotal(what - 5);
        }
    }

    private boolean isVerse(int book, int verse) {
        return isBook(book) && state.bookOf(book).has(verse);
    }

    private int firstVerseOrNone(int group, int book) {
        return state.map.sizeOf(group, book) == 0 ? NONE : state.map.firstOf(group, book);
    }

    private static boolean isBook(int book) {
        return book == LEFT || book == RIGHT;
    }

    private static int otherBook(int book) {
        return book == LEFT ? RIGHT : LEFT;
    }

    private static boolean isWithin(int value, int least, int greatest) {
        return value >= least && value <= greatest;
    }

    private static int linesFor(int letters, int width) {
        return width < 1 ? 0 : (letters + width - 1) / width;
    }

    private static int cellOf(int[] row, int index) {
        return index >= 0 && index < row.length ? row[index] : 0;
    }

    private static void copyRow(int[] from, int[] to) {
        System.arraycopy(from, 0, to, 0, Math.min(from.length, to.length));
    }

    /** Frees the cell at an index of a row of which the first cells are used. */
    private static void openCell(int[] row, int index, int used) {
        if (isWithin(used, 0, row.length - 1) && isWithin(index, 0, used)) {
            System.arraycopy(row, index, row, index + 1, used - index);
        }
    }

    /** Drops some cells from an index on; those behind them move up. */
    private static void closeCells(int[] row, int index, int cells, int used) {
        if (isWithin(used, 0, row.length) && isWithin(index, 0, used) && isWithin(cells, 0, used - index)) {
            System.arraycopy(row, index + cells, row, index, used - index - cells);
        }
    }

    /** The verses of one book, each with its chapter: a chapter is never empty, so it needs no row of its own. */
    private static final class Book {
        private final int[] chapters = new int[MAX_VERSES];
        private final int[] letters = new int[MAX_VERSES];
        private final int[] notes = new int[MAX_VERSES];
        private int verses;

        void copyFrom(Book other) {
            copyRow(other.chapters, chapters);
            copyRow(other.letters, letters);
            copyRow(other.notes, notes);
            verses = other.verses;
        }

        boolean has(int verse) {
            return verse >= 0 && verse < verses;
        }

        int chapterOf(int verse) {
            return has(verse) ? cellOf(chapters, verse) : 0;
        }

        int lettersOf(int verse) {
            return has(verse) ? cellOf(letters, verse) : 0;
        }

        int noteOf(int verse) {
            return has(verse) ? cellOf(notes, verse) : 0;
        }

        int chapterTotal() {
            return chapterOf(verses - 1);
        }

        boolean opensChapter(int verse) {
            return has(verse) && chapterOf(verse) != chapterOf(verse - 1);
        }

        int firstOf(int chapter) {
            for (int i = 0; i < verses; i++) {
                if (cellOf(chapters, i) == chapter) {
                    return i;
                }
            }
            return NOWHERE;
        }

        int versesOf(int chapter) {
            int sum = 0;
            for (int i = 0; i < verses; i++) {
                sum += cellOf(chapters, i) == chapter ? 1 : 0;
            }
            return sum;
        }

        int letterSumOf(int chapter) {
            int sum = 0;
            for (int i = 0; i < verses; i++) {
                sum += cellOf(chapters, i) == chapter ? cellOf(letters, i) : 0;
            }
            return sum;
        }

        int numberOf(int verse) {
            return verse - firstOf(chapterOf(verse)) + 1;
        }

        int find(int chapter, int number) {
            return isWithin(number, 1, versesOf(chapter)) ? firstOf(chapter) + number - 1 : NOWHERE;
        }

        void put(int verse, int newLetters, int newNote) {
            if (has(verse) && verse < MAX_VERSES) {
                letters[verse] = newLetters;
                notes[verse] = newNote;
            }
        }

        void insertAt(int verse, int chapter, int newLetters, int newNote) {
            if (verse < 0 || verse > verses || verses >= MAX_VERSES) {
                return;
            }
            openCell(chapters, verse, verses);
            openCell(letters, verse, verses);
            openCell(notes, verse, verses);
            verses++;
            chapters[verse] = chapter;
            put(verse, newLetters, newNote);
        }

        void joinWithNext(int verse) {
            int next = verse + 1;
            if (!has(verse) || !has(next)) {
                return;
            }
            int sum = lettersOf(verse) + lettersOf(next);
            int noteSum = noteOf(verse) + noteOf(next);
            put(verse, Math.min(sum, MAX_LETTERS), Math.min(noteSum, MAX_NOTE));
            closeCells(chapters, next, 1, verses);
            closeCells(letters, next, 1, verses);
            closeCells(notes, next, 1, verses);
            verses--;
        }

        void splitBehind(int verse, int firstLetters) {
            int rest = lettersOf(verse) - firstLetters;
            put(verse, firstLetters, noteOf(verse));
            insertAt(verse + 1, chapterOf(verse), rest, 0);
        }

        int linesOf(int from, int end, int width, int heading) {
            int sum = 0;
            for (int i = from; i < end; i++) {
                sum += linesFor(lettersOf(i), width) + (opensChapter(i) ? heading : 0);
            }
            return sum;
        }

        int noteSumOf(int from, int end) {
            int sum = 0;
            for (int i = from; i < end; i++) {
                sum += noteOf(i);
            }
            return sum;
        }
    }

    /** The groups, told by how many verses of each book they have: their order gives which ones. */
    private static final class GroupMap {
        private int[] left = new int[MAX_GROUPS];
        private int[] right = new int[MAX_GROUPS];
        private int groups;

        void copyFrom(GroupMap other) {
            copyRow(other.left, left);
            copyRow(other.right, right);
            groups = other.groups;
        }

        void clear() {
            groups = 0;
        }

        boolean has(int group) {
            return group >= 0 && group < groups;
        }

        int sizeOf(int group, int book) {
            return has(group) ? cellOf(book == LEFT ? left : right, group) : 0;
        }

        int firstOf(int group, int book) {
            int sum = 0;
            for (int i = 0; i < group && i < groups; i++) {
                sum += sizeOf(i, book);
            }
            return sum;
        }

        int groupOf(int book, int verse) {
            int end = 0;
            for (int i = 0; i < groups; i++) {
                end += sizeOf(i, book);
                if (verse < end) {
                    return i;
                }
            }
            return NOWHERE;
        }

        int kindOf(int group) {
            int leftSize = sizeOf(group, LEFT);
            int rightSize = sizeOf(group, RIGHT);
            if (rightSize == 0) {
                return 1;
            }
            if (leftSize == 0) {
                return 2;
            }
            return leftSize == 1 && rightSize == 1 ? 0 : 3;
        }

        int kindTotal(int kind) {
            int sum = 0;
            for (int i = 0; i < groups; i++) {
                sum += kindOf(i) == kind ? 1 : 0;
            }
            return sum;
        }

        int alikeTotal() {
            int sum = 0;
            for (int i = 0; i < groups; i++) {
                sum += sizeOf(i, LEFT) == sizeOf(i, RIGHT) ? 1 : 0;
            }
            return sum;
        }

        void put(int group, int leftSize, int rightSize) {
            if (has(group) && group < MAX_GROUPS) {
                left[group] = leftSize;
                right[group] = rightSize;
            }
        }

        void append(int leftSize, int rightSize) {
            if (groups < MAX_GROUPS) {
                groups++;
                put(groups - 1, leftSize, rightSize);
            }
        }

        void resize(int group, int book, int change) {
            int leftSize = sizeOf(group, LEFT) + (book == LEFT ? change : 0);
            int rightSize = sizeOf(group, RIGHT) + (book == RIGHT ? change : 0);
            put(group, leftSize, rightSize);
        }

        /** Makes the groups from the first to the last one to one group. */
        void merge(int first, int last) {
            if (!has(first) || !has(last) || last <= first) {
                return;
            }
            int leftSum = firstOf(last, LEFT) - firstOf(first, LEFT) + sizeOf(last, LEFT);
            int rightSum = firstOf(last, RIGHT) - firstOf(first, RIGHT) + sizeOf(last, RIGHT);
            put(first, leftSum, rightSum);
            closeCells(left, first + 1, last - first, groups);
            closeCells(right, first + 1, last - first, groups);
            groups -= last - first;
        }

        void cut(int group, int leftSize, int rightSize) {
            if (!has(group) || groups >= MAX_GROUPS) {
                return;
            }
            int leftRest = sizeOf(group, LEFT) - leftSize;
            int rightRest = sizeOf(group, RIGHT) - rightSize;
            openCell(left, group, groups);
            openCell(right, group, groups);
            groups++;
            put(group, leftSize, rightSize);
            put(group + 1, leftRest, rightRest);
        }

        void swapBooks() {
            int[] row = left;
            left = right;
            right = row;
        }
    }

    /** What the history keeps and undo restores. */
    private static final class State {
        private Book left = new Book();
        private Book right = new Book();
        private final GroupMap map = new GroupMap();

        Book bookOf(int book) {
            return book == LEFT ? left : right;
        }

        void copyFrom(State other) {
            left.copyFrom(other.left);
            right.copyFrom(other.right);
            map.copyFrom(other.map);
        }

        void swapBooks() {
            Book book = left;
            left = right;
            right = book;
            map.swapBooks();
        }
    }

    /** The latest states, the oldest one first. */
    private static final class History {
        private final State[] rows = new State[MAX_STATES];
        private int states;

        History() {
            for (int i = 0; i < MAX_STATES; i++) {
                rows[i] = new State();
            }
        }

        void record(State now) {
            if (states >= MAX_STATES) {
                dropOldest();
            }
            if (!isWithin(states, 0, MAX_STATES - 1)) {
                return;
            }
            State row = rows[states];
            if (row != null) {
                row.copyFrom(now);
                states++;
            }
        }

        void restore(State target) {
            if (states < 1 || states > MAX_STATES) {
                return;
            }
            State row = rows[states - 1];
            if (row != null) {
                target.copyFrom(row);
                states--;
            }
        }

        // The dropped row goes to the end, to be written anew.
        private void dropOldest() {
            State dropped = rows[0];
            for (int i = 1; i < MAX_STATES; i++) {
                rows[i - 1] = rows[i];
            }
            rows[MAX_STATES - 1] = dropped;
            states = MAX_STATES - 1;
        }
    }

    /** The text, with a place in it from which it is read; after the first fault, reading does nothing more. */
    private static final class Text {
        private final char[] signs = new char[MAX_TEXT];
        private int length;
        private int place;
        private int fault;
        private int number;
        private int numberStart;

        boolean append(char sign) {
            if (!isWithin(length, 0, MAX_TEXT - 1)) {
                return false;
            }
            signs[length] = sign;
            length++;
            return true;
        }

        void clear() {
            length = 0;
        }

        void restart() {
            place = 0;
            fault = NO_FAULT;
            number = 0;
            numberStart = 0;
        }

        boolean hasFault() {
            return fault != NO_FAULT;
        }

        boolean goesOn() {
            return !hasFault() && place < length;
        }

        boolean stands(char sign) {
            return goesOn() && signAt(place) == sign;
        }

        void failAt(int index) {
            if (fault == NO_FAULT) {
                fault = index;
            }
        }

        void failAtNumber() {
            failAt(numberStart);
        }

        void skip(char sign) {
            if (stands(sign)) {
                place++;
            } else {
                failAt(place);
            }
        }

        char readSign() {
            if (stands('=') || stands('<') || stands('>') || stands('+')) {
                place++;
                return signAt(place - 1);
            }
            failAt(place);
            return 0;
        }

        void readNumber() {
            numberStart = place;
            number = 0;
            if (!isDigit(place) || stands('0')) {
                failAt(place);
                return;
            }
            takeDigit();
            if (isDigit(place)) {
                takeDigit();
            }
            if (isDigit(place)) {
                failAt(place);
            }
        }

        private void takeDigit() {
            number = 10 * number + signAt(place) - '0';
            place++;
        }

        private boolean isDigit(int index) {
            return isWithin(signAt(index), '0', '9');
        }

        private char signAt(int index) {
            return index >= 0 && index < length && index < MAX_TEXT ? signs[index] : 0;
        }
    }

    /** Reads the text as a reference in a book. */
    private static final class ReferenceReader {
        private int first;
        private int last;

        /** The fault of the text, or NO_FAULT. */
        int read(Text text, Book book) {
            text.restart();
            text.readNumber();
            int chapter = lookAtChapter(text, book, 1);
            text.skip(':');
            text.readNumber();
            first = lookAtVerse(text, book, chapter, 0);
            last = first;
            if (text.goesOn()) {
                text.skip('-');
                readLast(text, book, chapter);
            }
            if (text.goesOn()) {
                text.failAt(text.place);
            }
            return text.fault;
        }

        private void readLast(Text text, Book book, int firstChapter) {
            text.readNumber();
            int chapter = firstChapter;
            // Only the sign behind the number tells whether it was a chapter.
            if (text.stands(':')) {
                chapter = lookAtChapter(text, book, firstChapter);
                text.skip(':');
                text.readNumber();
            }
            last = lookAtVerse(text, book, chapter, first);
        }

        private int lookAtChapter(Text text, Book book, int least) {
            if (!isWithin(text.number, least, book.chapterTotal())) {
                text.failAtNumber();
            }
            return text.number;
        }

        private int lookAtVerse(Text text, Book book, int chapter, int least) {
            int verse = book.find(chapter, text.number);
            if (verse < least) {
                text.failAtNumber();
            }
            return verse;
        }
    }

    /** Reads the text as a map, into a map of its own, so that a fault leaves the state as it is. */
    private static final class MapReader {
        private final GroupMap map = new GroupMap();
        private int leftRest;
        private int rightRest;

        /** The fault of the text, or NO_FAULT. */
        int read(Text text, State state) {
            text.restart();
            map.clear();
            leftRest = state.left.verses;
            rightRest = state.right.verses;
            readItem(text);
            for (int i = 0; i < MAX_TEXT && text.goesOn(); i++) {
                text.skip(',');
                readItem(text);
            }
            if (leftRest > 0 || rightRest > 0) {
                text.failAt(text.length);
            }
            return text.fault;
        }

        private void readItem(Text text) {
            text.readNumber();
            int number = text.number;
            switch (text.readSign()) {
                case '=':
                    addGroups(text, number, 1, 1);
                    break;
                case '<':
                    addGroups(text, number, 1, 0);
                    break;
                case '>':
                    addGroups(text, number, 0, 1);
                    break;
                case '+':
                    use(text, number, 0);
                    text.readNumber();
                    use(text, 0, text.number);
                    map.append(number, text.number);
                    break;
                default:
                    break;
            }
        }

        private void addGroups(Text text, int number, int left, int right) {
            use(text, number * left, number * right);
            for (int i = 0; i < number && !text.hasFault(); i++) {
                map.append(left, right);
            }
        }

        private void use(Text text, int left, int right) {
            if (left > leftRest || right > rightRest) {
                text.failAtNumber();
                return;
            }
            leftRest -= left;
            rightRest -= right;
        }
    }

    /** What stands in the groups that have at least one of some verses of a book. */
    private static final class Reach {
        private int first;
        private int last;
        private int groups;
        private int otherFirst;
        private int otherLast;
        private int otherVerses;
        private int ownVerses;

        void measure(GroupMap map, int book, int firstVerse, int lastVerse) {
            first = firstVerse;
            last = lastVerse;
            groups = 0;
            otherFirst = NONE;
            otherLast = NONE;
            otherVerses = 0;
            ownVerses = 0;
            int own = 0;
            int other = 0;
            for (int i = 0; i < map.groups; i++) {
                int ownEnd = own + map.sizeOf(i, book);
                int otherEnd = other + map.sizeOf(i, otherBook(book));
                // A group of the other book alone has no such verse, even where it lies between two that have.
                if (own < ownEnd && own <= lastVerse && ownEnd > firstVerse) {
                    groups++;
                    ownVerses += ownEnd - own;
                    takeOther(other, otherEnd);
                }
                own = ownEnd;
                other = otherEnd;
            }
        }

        private void takeOther(int from, int end) {
            if (from == end) {
                return;
            }
            if (otherVerses == 0) {
                otherFirst = from;
            }
            otherLast = end - 1;
            otherVerses += end - from;
        }

        int property(int what) {
            switch (what) {
                case 0:
                    return first;
                case 1:
                    return last;
                case 2:
                    return otherFirst;
                case 3:
                    return otherLast;
                case 4:
                    return groups;
                case 5:
                    return otherVerses;
                default:
                    return ownVerses == last - first + 1 ? 1 : 0;
            }
        }
    }

    /** The measures of columns and pages, and where they put the groups. */
    private static final class Layout {
        private int leftWidth = 40;
        private int rightWidth = 40;
        private int pageHeight = 40;
        private int headingHeight = 2;
        private final int[] heights = new int[MAX_GROUPS];
        private final int[] notes = new int[MAX_GROUPS];
        private final int[] pageNumbers = new int[MAX_GROUPS];
        private final int[] lines = new int[MAX_GROUPS];
        private int groups;
        private int pages;
        private int emptyLines;

        int widthOf(int book) {
            return book == LEFT ? leftWidth : rightWidth;
        }

        void changeWidth(int book, int width) {
            if (book == LEFT) {
                leftWidth = width;
            } else {
                rightWidth = width;
            }
        }

        void arrange(State state) {
            groups = Math.min(state.map.groups, MAX_GROUPS);
            measureGroups(state);
            fillPages();
        }

        private void measureGroups(State state) {
            emptyLines = 0;
            int left = 0;
            int right = 0;
            for (int i = 0; i < groups; i++) {
                int leftEnd = left + state.map.sizeOf(i, LEFT);
                int rightEnd = right + state.map.sizeOf(i, RIGHT);
                int leftLines = state.left.linesOf(left, leftEnd, leftWidth, headingHeight);
                int rightLines = state.right.linesOf(right, rightEnd, rightWidth, headingHeight);
                heights[i] = Math.max(leftLines, rightLines);
                emptyLines += Math.abs(leftLines - rightLines);
                notes[i] = state.left.noteSumOf(left, leftEnd) + state.right.noteSumOf(right, rightEnd);
                left = leftEnd;
                right = rightEnd;
            }
        }

        private void fillPages() {
            pages = groups == 0 ? 0 : 1;
            int used = 0;
            int noteSum = 0;
            for (int i = 0; i < groups; i++) {
                if (i > 0 && used + heights[i] + withRule(noteSum + notes[i]) > pageHeight) {
                    pages++;
                    used = 0;
                    noteSum = 0;
                }
                pageNumbers[i] = pages - 1;
                lines[i] = used;
                used += heights[i];
                noteSum += notes[i];
            }
        }

        // Notes are parted from the verses by one line more.
        private static int withRule(int noteSum) {
            return noteSum == 0 ? 0 : noteSum + 1;
        }

        int heightOf(int group) {
            return cellOf(heights, group);
        }

        int pageOf(int group) {
            return cellOf(pageNumbers, group);
        }

        int lineOf(int group) {
            return cellOf(lines, group);
        }

        int notesOf(int group) {
            return cellOf(notes, group);
        }

        int firstGroupOf(int number) {
            for (int i = 0; i < groups; i++) {
                if (pageOf(i) == number) {
                    return i;
                }
            }
            return NOWHERE;
        }

        int lastGroupOf(int number) {
            for (int i = groups - 1; i >= 0; i--) {
                if (pageOf(i) == number) {
                    return i;
                }
            }
            return NOWHERE;
        }

        int heightSumOf(int number) {
            int sum = 0;
            for (int i = 0; i < groups; i++) {
                sum += pageOf(i) == number ? heightOf(i) : 0;
            }
            return sum;
        }

        int noteLinesOf(int number) {
            int sum = 0;
            for (int i = 0; i < groups; i++) {
                sum += pageOf(i) == number ? notesOf(i) : 0;
            }
            return withRule(sum);
        }

        boolean overflows(int number) {
            return heightSumOf(number) + noteLinesOf(number) > pageHeight;
        }
    }
}
