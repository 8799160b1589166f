/** Promises 1 to 5 and what the terms say of books: each sentence that names a boundary case, at and beside it. */
public final class BooksEdgeTest extends Checks {
    private static final int[] FAR = {MIN, -7, -2, 2, 3, 100, MAX};

    public static void main(String[] args) {
        newObject();
        noChaptersAtFirst();
        twoBooks();
        farBooks();
        upToTenChapters();
        chaptersFromOne();
        upToSixtyVerses();
        sixtyVersesInTenChapters();
        versesFromZero();
        noVersesInAnEmptyBook();
        numbersFromOne();
        verseOfTheBook();
        lettersOfAdded();
        lettersOfSet();
        notes();
        noteAtFirst();
        addedVerses();
        addedGroups();
        addedAtTheEnd();
        addChapterErrors();
        previousLetters();
        setVerseErrors();
        joinLastOfChapter();
        joinErrors();
        joinedLetters();
        joinedNotes();
        joinedAhead();
        joinedGroups();
        joinedInOneGroup();
        joinedToOne();
        splitLetters();
        splitRest();
        splitNote();
        splitInItsChapter();
        splitInItsGroup();
        splitFull();
        splitErrors();
        finish();
    }

    private static VerseColumns ofLetters(int letters) {
        VerseColumns x = new VerseColumns();
        x.addChapter(0, 1, letters);
        return x;
    }

    /** Two verses of the left book that can be joined. */
    private static VerseColumns twoVerses(int firstLetters, int secondLetters, int firstNote, int secondNote) {
        VerseColumns x = books(2, 0);
        x.setVerse(0, 0, firstLetters, firstNote);
        x.setVerse(0, 1, secondLetters, secondNote);
        return x;
    }

    private static void newObject() {
        sentence("Creates two books without chapters.");
        VerseColumns x = new VerseColumns();
        for (int what = 0; what < 12; what++) {
            due("count(" + what + ")", x.count(what), 0);
        }
        VerseColumns other = new VerseColumns();
        x.addChapter(0, 2, 5);
        x.type('1');
        due("count(0) of another object", other.count(0), 0);
        due("count(4) of another object", other.count(4), 0);
        due("clearText() of another object", other.clearText(), 0);
    }

    private static void noChaptersAtFirst() {
        sentence("At first both books have no chapters.");
        for (int book = 0; book < 2; book++) {
            int b = book;
            due("count(" + b + ")", new VerseColumns().count(b), 0);
            refused("chapter 1 of a new object", VerseColumns::new, x -> x.chapter(b, 1, 0), UNKNOWN);
            due("the first chapter", new VerseColumns().addChapter(b, 1, 1), 1);
        }
    }

    private static void twoBooks() {
        sentence("There are two books, 0 (left) and 1 (right).");
        ends("addChapter", Checks::small, 0, 1, (x, b) -> x.addChapter(b, 1, 1), b -> b == 0 ? 3 : 2, UNKNOWN);
        ends("setVerse", Checks::small, 0, 1, (x, b) -> x.setVerse(b, 0, 5, 1), b -> b == 0 ? 100 : 130, UNKNOWN);
        ends("joinVerses", Checks::small, 0, 1, (x, b) -> x.joinVerses(b, 0), b -> b == 0 ? 3 : 1, UNKNOWN);
        ends("splitVerse", Checks::small, 0, 1, (x, b) -> x.splitVerse(b, 0, 1), b -> b == 0 ? 5 : 3, UNKNOWN);
        ends("refer", Checks::small, 0, 1, (x, b) -> x.refer(b, 1), b -> b == 0 ? 2 : -104, UNKNOWN);
        ends("beside", Checks::small, 0, 1, (x, b) -> x.beside(b, 0, 0), b -> b == 0 ? 0 : 4, UNKNOWN);
        ends("setWidth", Checks::small, 0, 1, (x, b) -> x.setWidth(b, 10), b -> b == 0 ? 50 : 30, UNKNOWN);
        ends("chapter", Checks::small, 0, 1, (x, b) -> x.chapter(b, 1, 1), b -> b == 0 ? 3 : 2, UNKNOWN);
        ends("verse", Checks::small, 0, 1, (x, b) -> x.verse(b, 0, 2), b -> b == 0 ? 100 : 130, UNKNOWN);
    }

    private static void farBooks() {
        sentence("There is no such book, chapter, verse or group.");
        for (int book : FAR) {
            refused("addChapter(" + book + ", 1, 1)", Checks::worn, x -> x.addChapter(book, 1, 1), UNKNOWN);
            refused("setVerse(" + book + ", 0, 1, 1)", Checks::worn, x -> x.setVerse(book, 0, 1, 1), UNKNOWN);
            refused("joinVerses(" + book + ", 0)", Checks::worn, x -> x.joinVerses(book, 0), UNKNOWN);
            refused("splitVerse(" + book + ", 0, 1)", Checks::worn, x -> x.splitVerse(book, 0, 1), UNKNOWN);
        }
    }

    private static void upToTenChapters() {
        sentence("A book has up to 10 chapters");
        for (int book = 0; book < 2; book++) {
            int b = book;
            VerseColumns x = new VerseColumns();
            for (int chapter = 1; chapter <= 10; chapter++) {
                due("chapter " + chapter, x.addChapter(b, 1, 5), chapter);
            }
            due("count(" + b + ")", x.count(b), 10);
            due("an 11th chapter of the same object", x.addChapter(b, 1, 5), FULL);
            refused("an 11th chapter", () -> chapters(b, 10), y -> y.addChapter(b, 1, 5), FULL);
            due("a chapter of the other book", chapters(b, 10).addChapter(1 - b, 1, 5), 1);
            x.undo();
            due("the 10th chapter again", x.addChapter(b, 1, 5), 10);
        }
    }

    private static void chaptersFromOne() {
        sentence("chapters, numbered from 1");
        due("the first chapter", new VerseColumns().addChapter(1, 1, 5), 1);
        ends("chapter", Checks::small, 1, 2, (x, c) -> x.chapter(0, c, 1), c -> c == 1 ? 3 : 1, UNKNOWN);
        ends("chapter of the right book", Checks::small, 1, 1, (x, c) -> x.chapter(1, c, 1), c -> 2, UNKNOWN);
        ends("chapter of 10", () -> chapters(1, 10), 1, 10, (x, c) -> x.chapter(1, c, 0), c -> c - 1, UNKNOWN);
    }

    private static void upToSixtyVerses() {
        sentence("FULL if there are 10 chapters, or there would be more than 60 verses.");
        for (int book = 0; book < 2; book++) {
            int b = book;
            for (int there : new int[] {1, 30, 58, 59}) {
                int rest = 60 - there;
                VerseColumns x = books(b == 0 ? there : 0, b == 1 ? there : 0);
                due("verses up to 60", x.addChapter(b, rest, 7), 2);
                due("count of verses", x.count(2 + b), 60);
                refused("one verse too many", () -> books(b == 0 ? there : 0, b == 1 ? there : 0),
                    y -> y.addChapter(b, rest + 1, 7), FULL);
                due("verses up to 59", books(b == 0 ? there - 1 : 0, b == 1 ? there - 1 : 0).addChapter(b, rest, 7),
                    there == 1 ? 1 : 2);
            }
            refused("60 more than 1", () -> books(b == 0 ? 1 : 0, b == 1 ? 1 : 0), y -> y.addChapter(b, 60, 7), FULL);
            refused("1 more than 60", () -> books(60, 60), y -> y.addChapter(b, 1, 7), FULL);
            refused("60 more than 60", () -> books(60, 60), y -> y.addChapter(b, 60, 7), FULL);
            due("60 of the other book", books(b == 0 ? 60 : 0, b == 1 ? 60 : 0).addChapter(1 - b, 60, 7), 1);
        }
    }

    private static VerseColumns nineOfSix() {
        VerseColumns x = new VerseColumns();
        for (int i = 0; i < 9; i++) {
            x.addChapter(1, 6, 5);
        }
        return x;
    }

    private static void sixtyVersesInTenChapters() {
        sentence("A book has up to 10 chapters, numbered from 1, and up to 60 verses");
        due("the 10th chapter with 6 verses", nineOfSix().addChapter(1, 6, 5), 10);
        refused("the 10th chapter with 7 verses", BooksEdgeTest::nineOfSix, x -> x.addChapter(1, 7, 5), FULL);
        VerseColumns full = nineOfSix();
        full.addChapter(1, 6, 5);
        due("the last verse is in the 10th chapter", full.verse(1, 59, 0), 10);
        due("the last verse is the 6th one", full.verse(1, 59, 1), 6);
        due("the last chapter begins at 54", full.chapter(1, 10, 0), 54);
        due("an 11th chapter", full.addChapter(1, 1, 5), FULL);
    }

    /** Left: chapters of 2 and 3 verses. */
    private static VerseColumns twoAndThree() {
        VerseColumns x = new VerseColumns();
        x.addChapter(0, 2, 100);
        x.addChapter(0, 3, 200);
        x.addChapter(1, 1, 300);
        return x;
    }

    private static void versesFromZero() {
        sentence("which are counted from 0 through the whole book");
        ends("verse", BooksEdgeTest::twoAndThree, 0, 4, (x, v) -> x.verse(0, v, 0), v -> v < 2 ? 1 : 2, UNKNOWN);
        ends("setVerse", BooksEdgeTest::twoAndThree, 0, 4, (x, v) -> x.setVerse(0, v, 1, 0), v -> v < 2 ? 100 : 200,
            UNKNOWN);
        ends("splitVerse", BooksEdgeTest::twoAndThree, 0, 4, (x, v) -> x.splitVerse(0, v, 1), v -> 6, UNKNOWN);
        ends("beside", BooksEdgeTest::twoAndThree, 0, 4, (x, v) -> x.beside(0, v, 0), v -> v, UNKNOWN);
        ends("joinVerses", BooksEdgeTest::twoAndThree, 0, 4, (x, v) -> x.joinVerses(0, v),
            v -> v == 1 || v == 4 ? NOT_POSSIBLE : 4, UNKNOWN);
        ends("verse of the right book", BooksEdgeTest::twoAndThree, 0, 0, (x, v) -> x.verse(1, v, 2), v -> 300, UNKNOWN);
        ends("verse of 60", () -> books(60, 60), 0, 59, (x, v) -> x.verse(1, v, 1), v -> v + 1, UNKNOWN);
    }

    private static void noVersesInAnEmptyBook() {
        sentence("UNKNOWN = -1");
        for (int verse : new int[] {0, 1, -1, MIN, MAX}) {
            refused("setVerse", VerseColumns::new, x -> x.setVerse(0, verse, 1, 0), UNKNOWN);
            refused("joinVerses", VerseColumns::new, x -> x.joinVerses(0, verse), UNKNOWN);
            refused("splitVerse", VerseColumns::new, x -> x.splitVerse(0, verse, 1), UNKNOWN);
            refused("setVerse beside a book", () -> books(0, 3), x -> x.setVerse(0, verse, 1, 0), UNKNOWN);
            refused("joinVerses beside a book", () -> books(3, 0), x -> x.joinVerses(1, verse), UNKNOWN);
            refused("splitVerse beside a book", () -> books(3, 0), x -> x.splitVerse(1, verse, 1), UNKNOWN);
        }
    }

    private static void numbersFromOne() {
        sentence("in its chapter a verse has a number from 1");
        int[] numbers = {1, 2, 1, 2, 3};
        for (int verse = 0; verse < 5; verse++) {
            due("number of verse " + verse, twoAndThree().verse(0, verse, 1), numbers[verse]);
        }
        VerseColumns x = twoAndThree();
        x.joinVerses(0, 0);
        due("number of verse 0 after a join", x.verse(0, 0, 1), 1);
        due("number of verse 1 after a join", x.verse(0, 1, 1), 1);
        VerseColumns y = twoAndThree();
        y.splitVerse(0, 1, 50);
        due("number of verse 2 after a split", y.verse(0, 2, 1), 3);
        due("number of verse 3 after a split", y.verse(0, 3, 1), 1);
    }

    private static void verseOfTheBook() {
        sentence("- `verse`: a verse of it, from 0");
        ends("setVerse", Checks::small, 0, 3, (x, v) -> x.setVerse(0, v, 9, 9), v -> new int[] {100, 90, 100, 250}[v],
            UNKNOWN);
        ends("setVerse", Checks::worn, 0, 1, (x, v) -> x.setVerse(1, v, 9, 9), v -> 130, UNKNOWN);
        ends("setVerse of 60", () -> books(60, 60), 0, 59, (x, v) -> x.setVerse(1, v, 9, 9), v -> 100, UNKNOWN);
        VerseColumns x = books(60, 0);
        x.setVerse(0, 0, 1, 1);
        x.setVerse(0, 59, 2, 2);
        due("letters of the first one", x.verse(0, 0, 2), 1);
        due("letters of the second one", x.verse(0, 1, 2), 100);
        due("letters of the last but one", x.verse(0, 58, 2), 100);
        due("letters of the last one", x.verse(0, 59, 2), 2);
    }

    private static void lettersOfAdded() {
        sentence("the letters of each of its verses, 1 to 2000");
        ends("addChapter, letters", Checks::small, 1, 2000, (x, n) -> x.addChapter(0, 2, n), n -> 3, BAD_VALUE);
        ends("addChapter, letters", Checks::worn, 1, 2000, (x, n) -> x.addChapter(1, 1, n), n -> 2, BAD_VALUE);
        for (int letters : new int[] {1, 2, 1999, 2000}) {
            VerseColumns x = new VerseColumns();
            x.addChapter(1, 2, letters);
            due("letters of the first one", x.verse(1, 0, 2), letters);
            due("letters of the last one", x.verse(1, 1, 2), letters);
        }
    }

    private static void lettersOfSet() {
        sentence("A verse has a number of letters (1 to 2000)");
        ends("setVerse, letters", Checks::small, 1, 2000, (x, n) -> x.setVerse(0, 1, n, 0), n -> 90, BAD_VALUE);
        ends("setVerse, letters", Checks::worn, 1, 2000, (x, n) -> x.setVerse(1, 1, n, 10), n -> 130, BAD_VALUE);
        for (int letters : new int[] {1, 2, 1999, 2000}) {
            VerseColumns x = small();
            x.setVerse(0, 1, letters, 3);
            due("letters", x.verse(0, 1, 2), letters);
            due("letters of the one before", x.verse(0, 0, 2), 100);
            due("letters of the one behind", x.verse(0, 2, 2), 100);
        }
    }

    private static void notes() {
        sentence("a note of 0 to 10 lines");
        ends("setVerse, note", Checks::small, 0, 10, (x, n) -> x.setVerse(0, 1, 90, n), n -> 90, BAD_VALUE);
        ends("setVerse, note", Checks::worn, 0, 10, (x, n) -> x.setVerse(1, 0, 130, n), n -> 130, BAD_VALUE);
        for (int note : new int[] {0, 1, 9, 10}) {
            VerseColumns x = small();
            x.setVerse(0, 1, 5, note);
            due("note", x.verse(0, 1, 3), note);
            due("note of the one before", x.verse(0, 0, 3), 0);
            due("note of the one behind", x.verse(0, 2, 3), 0);
        }
    }

    private static void noteAtFirst() {
        sentence("lines (at first 0)");
        VerseColumns x = books(60, 60);
        for (int verse = 0; verse < 60; verse++) {
            due("note of " + verse, x.verse(0, verse, 3) + x.verse(1, verse, 3), 0);
        }
        // A verse that is added where one with a note stood before has none either.
        VerseColumns y = books(0, 1);
        y.addChapter(0, 1, 5);
        y.setVerse(0, 0, 5, 10);
        y.undo();
        y.undo();
        y.addChapter(0, 1, 5);
        due("note of a verse added anew", y.verse(0, 0, 3), 0);
    }

    private static void addedVerses() {
        sentence("- `verses`: 1 to 60");
        ends("addChapter, verses", VerseColumns::new, 1, 60, (x, n) -> x.addChapter(0, n, 5), n -> 1, BAD_VALUE);
        ends("addChapter, verses", VerseColumns::new, 1, 60, (x, n) -> x.addChapter(1, n, 5), n -> 1, BAD_VALUE);
        for (int verses : new int[] {1, 2, 59, 60}) {
            VerseColumns x = new VerseColumns();
            x.addChapter(0, verses, 5);
            due("verses of the chapter", x.chapter(0, 1, 1), verses);
            due("verses of the book", x.count(2), verses);
        }
    }

    private static void addedGroups() {
        sentence("for each of its verses a group with this verse alone is added at the end of the map");
        for (int verses : new int[] {1, 2, 59, 60}) {
            VerseColumns x = new VerseColumns();
            x.addChapter(1, verses, 5);
            due("groups", x.count(4), verses);
            due("groups of right verses alone", x.count(7), verses);
            dueGroup(x, 0, 2, NONE, 0, 0, 1);
            dueGroup(x, verses - 1, 2, NONE, 0, verses - 1, 1);
        }
        VerseColumns x = mapped(2, 3, "2+3");
        x.addChapter(0, 1, 5);
        x.addChapter(1, 2, 5);
        dueMap(x, "2+3 1+0 0+1 0+1");
        VerseColumns full = books(60, 59);
        full.addChapter(1, 1, 5);
        due("groups", full.count(4), 120);
        dueGroup(full, 119, 2, NONE, 0, 59, 1);
        dueGroup(full, 59, 1, 59, 1, NONE, 0);
    }

    private static void addedAtTheEnd() {
        sentence("Adds a chapter at the end of a book");
        VerseColumns x = twoAndThree();
        due("a third chapter", x.addChapter(0, 1, 7), 3);
        due("its first verse", x.chapter(0, 3, 0), 5);
        due("the second one's verses stay", x.chapter(0, 2, 1), 3);
        due("letters of the last verse", x.verse(0, 5, 2), 7);
        due("letters of the verse ahead", x.verse(0, 4, 2), 200);
        due("the right book stays", x.count(3), 1);
    }

    private static VerseColumns fullOfChapters() {
        VerseColumns x = chapters(0, 10);
        x.addChapter(1, 60, 5);
        return x;
    }

    private static void addChapterErrors() {
        sentence("Returns the number of the chapter; UNKNOWN; BAD_VALUE; FULL");
        refused("a book and verses", Checks::small, x -> x.addChapter(2, 0, 5), UNKNOWN);
        refused("a book and letters", Checks::small, x -> x.addChapter(-1, 1, 2001), UNKNOWN);
        refused("all three", Checks::small, x -> x.addChapter(2, 61, 0), UNKNOWN);
        refused("a book, full ones", BooksEdgeTest::fullOfChapters, x -> x.addChapter(2, 1, 5), UNKNOWN);
        refused("verses, 10 chapters", BooksEdgeTest::fullOfChapters, x -> x.addChapter(0, 61, 5), BAD_VALUE);
        refused("verses, 10 chapters", BooksEdgeTest::fullOfChapters, x -> x.addChapter(0, 0, 5), BAD_VALUE);
        refused("letters, 10 chapters", BooksEdgeTest::fullOfChapters, x -> x.addChapter(0, 1, 0), BAD_VALUE);
        refused("verses, 60 verses", BooksEdgeTest::fullOfChapters, x -> x.addChapter(1, 61, 5), BAD_VALUE);
        refused("letters, 60 verses", BooksEdgeTest::fullOfChapters, x -> x.addChapter(1, 1, 2001), BAD_VALUE);
        refused("verses and letters", Checks::small, x -> x.addChapter(0, 0, 0), BAD_VALUE);
        refused("10 chapters", BooksEdgeTest::fullOfChapters, x -> x.addChapter(0, 1, 5), FULL);
        refused("60 verses", BooksEdgeTest::fullOfChapters, x -> x.addChapter(1, 1, 5), FULL);
    }

    private static void previousLetters() {
        sentence("Returns the previous letters; UNKNOWN; BAD_VALUE.");
        for (int letters : new int[] {1, 2, 1999, 2000}) {
            VerseColumns x = ofLetters(letters);
            due("setVerse", x.setVerse(0, 0, 5, 0), letters);
            due("setVerse again", x.setVerse(0, 0, letters, 0), 5);
            due("setVerse to the same", x.setVerse(0, 0, letters, 0), letters);
            due("setVerse to the same is an act", x.count(11), 4);
        }
    }

    private static void setVerseErrors() {
        sentence("Sets the letters and the note of a verse.");
        refused("a book and letters", Checks::small, x -> x.setVerse(2, 0, 0, 0), UNKNOWN);
        refused("a book and a note", Checks::small, x -> x.setVerse(-1, 0, 5, 11), UNKNOWN);
        refused("a verse and letters", Checks::small, x -> x.setVerse(0, 4, 2001, 0), UNKNOWN);
        refused("a verse and a note", Checks::small, x -> x.setVerse(1, 2, 5, -1), UNKNOWN);
        refused("a verse below 0 and both", Checks::small, x -> x.setVerse(1, -1, 0, 11), UNKNOWN);
        refused("letters and a note", Checks::small, x -> x.setVerse(0, 0, 0, -1), BAD_VALUE);
        refused("good letters and a note", Checks::small, x -> x.setVerse(0, 0, 2000, 11), BAD_VALUE);
        refused("letters and a good note", Checks::small, x -> x.setVerse(0, 0, 2001, 10), BAD_VALUE);
    }

    private static void joinLastOfChapter() {
        sentence("NOT_POSSIBLE if it is the last one of its chapter.");
        due("the last but one of a chapter", small().joinVerses(0, 1), 3);
        due("the first one of two", small().joinVerses(1, 0), 1);
        refused("the last one, a chapter behind it", Checks::small, x -> x.joinVerses(0, 2), NOT_POSSIBLE);
        refused("the only one, the last one of the book", Checks::small, x -> x.joinVerses(0, 3), NOT_POSSIBLE);
        refused("the last one of the book", Checks::small, x -> x.joinVerses(1, 1), NOT_POSSIBLE);
        refused("the only one", () -> books(1, 0), x -> x.joinVerses(0, 0), NOT_POSSIBLE);
        refused("the only one of each chapter", () -> chapters(1, 10), x -> x.joinVerses(1, 5), NOT_POSSIBLE);
        refused("the last one in a linked group", Checks::worn, x -> x.joinVerses(0, 2), NOT_POSSIBLE);
        due("the last but one of 60", books(60, 60).joinVerses(1, 58), 59);
        refused("the last one of 60", () -> books(60, 60), x -> x.joinVerses(1, 59), NOT_POSSIBLE);
    }

    private static void joinErrors() {
        sentence("Returns the number of verses of the book then; UNKNOWN; NOT_POSSIBLE");
        refused("the verse behind the last one", Checks::small, x -> x.joinVerses(0, 4), UNKNOWN);
        refused("the verse behind the last one", () -> books(60, 60), x -> x.joinVerses(0, 60), UNKNOWN);
        refused("the verse ahead of the first one", Checks::small, x -> x.joinVerses(0, -1), UNKNOWN);
        refused("the last verse of no book", Checks::small, x -> x.joinVerses(2, 3), UNKNOWN);
        refused("the last verse of no book", Checks::small, x -> x.joinVerses(-1, 1), UNKNOWN);
    }

    private static void joinedLetters() {
        sentence("with the letters of both (but at most 2000)");
        int[][] sums = {{1, 1, 2}, {1, 1998, 1999}, {999, 1000, 1999}, {1000, 1000, 2000}, {1, 1999, 2000},
            {1999, 1, 2000}, {1000, 1001, 2000}, {1, 2000, 2000}, {2000, 1, 2000}, {2000, 2000, 2000}};
        for (int[] sum : sums) {
            VerseColumns x = twoVerses(sum[0], sum[1], 0, 0);
            due("joinVerses", x.joinVerses(0, 0), 1);
            due("letters of " + sum[0] + " and " + sum[1], x.verse(0, 0, 2), sum[2]);
            due("letters of the chapter", x.chapter(0, 1, 2), sum[2]);
        }
    }

    private static void joinedNotes() {
        sentence("and the lines of both notes (but at most 10)");
        int[][] sums = {{0, 0, 0}, {0, 1, 1}, {1, 0, 1}, {4, 5, 9}, {0, 9, 9}, {5, 5, 10}, {0, 10, 10}, {10, 0, 10},
            {5, 6, 10}, {1, 10, 10}, {10, 1, 10}, {10, 10, 10}};
        for (int[] sum : sums) {
            VerseColumns x = twoVerses(5, 5, sum[0], sum[1]);
            x.joinVerses(0, 0);
            due("note of " + sum[0] + " and " + sum[1], x.verse(0, 0, 3), sum[2]);
            due("notes of the group", x.group(0, 8), sum[2]);
        }
    }

    private static void joinedAhead() {
        sentence("A verse has a number of letters (1 to 2000) and a note of 0 to 10 lines");
        VerseColumns x = books(4, 0);
        x.addChapter(0, 1, 9);
        for (int verse = 0; verse < 4; verse++) {
            x.setVerse(0, verse, 11 + verse, 1 + verse);
        }
        due("joinVerses", x.joinVerses(0, 1), 4);
        int[][] want = {{1, 11, 1}, {1, 25, 5}, {1, 14, 4}, {2, 9, 0}};
        for (int verse = 0; verse < 4; verse++) {
            due("chapter of verse " + verse, x.verse(0, verse, 0), want[verse][0]);
            due("letters of verse " + verse, x.verse(0, verse, 2), want[verse][1]);
            due("note of verse " + verse, x.verse(0, verse, 3), want[verse][2]);
        }
        due("a verse behind the last one", x.verse(0, 4, 3), UNKNOWN);
        VerseColumns full = books(0, 60);
        full.setVerse(1, 59, 7, 10);
        full.joinVerses(1, 0);
        due("letters of the last one of 59", full.verse(1, 58, 2), 7);
        due("note of the last one of 59", full.verse(1, 58, 3), 10);
        due("note of the one ahead", full.verse(1, 57, 3), 0);
        full.joinVerses(1, 57);
        due("letters of the last two ones", full.verse(1, 57, 2), 107);
        due("note of the last two ones", full.verse(1, 57, 3), 10);
    }

    private static void dueJoined(int left, int right, String text, int book, int verse, String want) {
        VerseColumns x = mapped(left, right, text);
        due("joinVerses(" + book + ", " + verse + ") in " + text, x.joinVerses(book, verse),
            (book == 0 ? left : right) - 1);
        dueMap(x, want);
    }

    private static void joinedGroups() {
        sentence("If they are in different groups, these groups and all between them become one group.");
        dueJoined(2, 0, "2<", 0, 0, "1+0");
        dueJoined(2, 2, "2=", 0, 0, "1+2");
        dueJoined(2, 2, "2=", 1, 0, "2+1");
        dueJoined(2, 1, "1<,1>,1<", 0, 0, "1+1");
        dueJoined(2, 2, "1<,2>,1<", 0, 0, "1+2");
        dueJoined(1, 2, "1>,1<,1>", 1, 0, "1+1");
        dueJoined(3, 2, "1<,1>,1<,1>,1<", 0, 0, "1+1 0+1 1+0");
        dueJoined(3, 2, "1<,1>,1<,1>,1<", 0, 1, "1+0 0+1 1+1");
        dueJoined(4, 4, "2+1,1>,2+2", 0, 1, "3+4");
        dueJoined(4, 4, "1=,1+1,1>,2+1", 0, 1, "1+1 2+3");
        dueJoined(3, 60, "1<,60>,2<", 0, 0, "1+60 1+0");
        VerseColumns x = books(60, 60);
        due("joinVerses", x.joinVerses(0, 58), 59);
        due("groups", x.count(4), 119);
        dueGroup(x, 58, 1, 58, 1, NONE, 0);
        dueGroup(x, 59, 2, NONE, 0, 0, 1);
    }

    private static void joinedInOneGroup() {
        sentence("Joins a verse and the next one of its chapter to one verse");
        dueJoined(3, 1, "3+1", 0, 0, "2+1");
        dueJoined(3, 1, "3+1", 0, 1, "2+1");
        dueJoined(1, 2, "1+2", 1, 0, "1+1");
        dueJoined(4, 2, "1=,2+1,1<", 0, 1, "1+1 1+1 1+0");
        dueJoined(60, 60, "60+60", 1, 58, "60+59");
        VerseColumns x = books(3, 0);
        x.link(1);
        due("joinVerses of a group of the left book alone", x.joinVerses(0, 1), 2);
        dueMap(x, "1+0 1+0");
    }

    private static void joinedToOne() {
        sentence("to one verse, with the letters of both");
        VerseColumns x = books(3, 0);
        due("joinVerses", x.joinVerses(0, 0), 2);
        due("joinVerses", x.joinVerses(0, 0), 1);
        due("joinVerses of the last one left", x.joinVerses(0, 0), NOT_POSSIBLE);
        due("chapters", x.count(0), 1);
        due("verse 0", x.verse(0, 0, 2), 300);
        due("verse 1", x.verse(0, 1, 2), UNKNOWN);
        VerseColumns y = books(60, 0);
        y.joinVerses(0, 0);
        due("a chapter of 2 verses at 59", y.addChapter(0, 2, 5), FULL);
        due("a chapter of 1 verse at 59", y.addChapter(0, 1, 5), 2);
    }

    private static void splitLetters() {
        sentence("the letters of the first one, 1 to 1999; the second one gets the rest");
        ends("splitVerse", () -> ofLetters(2000), 1, 1999, (x, n) -> x.splitVerse(0, 0, n), n -> 2, BAD_VALUE);
        for (int letters : new int[] {1, 2, 1000, 1998, 1999}) {
            VerseColumns x = ofLetters(2000);
            x.splitVerse(0, 0, letters);
            due("letters of the first one", x.verse(0, 0, 2), letters);
            due("letters of the second one", x.verse(0, 1, 2), 2000 - letters);
        }
    }

    private static void splitRest() {
        sentence("NOT_POSSIBLE if there is no rest");
        for (int letters : new int[] {2, 3, 100, 1999}) {
            VerseColumns x = ofLetters(letters);
            due("a rest of 1", x.splitVerse(0, 0, letters - 1), 2);
            due("letters of the second one", x.verse(0, 1, 2), 1);
            refused("no rest", () -> ofLetters(letters), y -> y.splitVerse(0, 0, letters), NOT_POSSIBLE);
            refused("more than all letters", () -> ofLetters(letters), y -> y.splitVerse(0, 0, Math.min(letters + 1, 1999)),
                NOT_POSSIBLE);
        }
        due("a rest of 2", ofLetters(3).splitVerse(0, 0, 1), 2);
        refused("a verse of 1 letter", () -> ofLetters(1), x -> x.splitVerse(0, 0, 1), NOT_POSSIBLE);
        refused("a verse of 1 letter", () -> ofLetters(1), x -> x.splitVerse(0, 0, 1999), NOT_POSSIBLE);
    }

    private static void splitNote() {
        sentence("the first one keeps the note, the second one has none");
        for (int note : new int[] {0, 1, 10}) {
            VerseColumns x = books(3, 0);
            x.setVerse(0, 1, 100, note);
            x.setVerse(0, 2, 100, 7);
            x.splitVerse(0, 1, 40);
            due("note of the first one", x.verse(0, 1, 3), note);
            due("note of the second one", x.verse(0, 2, 3), 0);
            due("note of the one ahead", x.verse(0, 0, 3), 0);
            due("note of the one behind", x.verse(0, 3, 3), 7);
        }
        VerseColumns last = books(0, 60);
        last.joinVerses(1, 0);
        last.setVerse(1, 58, 100, 10);
        due("the last verse of 59", last.splitVerse(1, 58, 99), 60);
        due("note of the last one", last.verse(1, 59, 3), 0);
        due("note of the one ahead", last.verse(1, 58, 3), 10);
    }

    private static void splitInItsChapter() {
        sentence("Splits a verse into two ones of its chapter");
        VerseColumns last = twoAndThree();
        due("the last one of the first chapter", last.splitVerse(0, 1, 50), 6);
        due("verses of the first chapter", last.chapter(0, 1, 1), 3);
        due("the second chapter begins later", last.chapter(0, 2, 0), 3);
        due("chapter of the second part", last.verse(0, 2, 0), 1);
        VerseColumns first = twoAndThree();
        first.splitVerse(0, 2, 50);
        due("verses of the first chapter", first.chapter(0, 1, 1), 2);
        due("the second chapter begins there", first.chapter(0, 2, 0), 2);
        due("verses of the second chapter", first.chapter(0, 2, 1), 4);
        VerseColumns end = twoAndThree();
        end.splitVerse(0, 4, 50);
        due("chapter of the last verse", end.verse(0, 5, 0), 2);
        due("chapters", end.count(0), 2);
        due("letters of the chapter stay", end.chapter(0, 2, 2), 600);
    }

    private static void dueSplit(int left, int right, String text, int book, int verse, String want) {
        VerseColumns x = mapped(left, right, text);
        due("splitVerse(" + book + ", " + verse + ") in " + text, x.splitVerse(book, verse, 1),
            (book == 0 ? left : right) + 1);
        dueMap(x, want);
    }

    private static void splitInItsGroup() {
        sentence("Both are in the group of the verse.");
        dueSplit(1, 0, "1<", 0, 0, "2+0");
        dueSplit(0, 1, "1>", 1, 0, "0+2");
        dueSplit(1, 1, "1=", 0, 0, "2+1");
        dueSplit(1, 1, "1=", 1, 0, "1+2");
        dueSplit(3, 3, "3=", 0, 0, "2+1 1+1 1+1");
        dueSplit(3, 3, "3=", 1, 2, "1+1 1+1 1+2");
        dueSplit(3, 3, "1=,1>,1=,1<", 0, 1, "1+1 0+1 2+1 1+0");
        dueSplit(4, 1, "1<,2+1,1<", 0, 2, "1+0 3+1 1+0");
        dueSplit(59, 59, "59+59", 1, 58, "59+60");
    }

    private static VerseColumns sixty() {
        VerseColumns x = books(60, 59);
        x.setVerse(0, 59, 2000, 4);
        x.setVerse(1, 58, 2000, 4);
        return x;
    }

    private static void splitFull() {
        sentence("FULL if there are 60 verses.");
        refused("the first one of 60", BooksEdgeTest::sixty, x -> x.splitVerse(0, 0, 50), FULL);
        refused("the last one of 60", BooksEdgeTest::sixty, x -> x.splitVerse(0, 59, 1999), FULL);
        due("the first one of 59", sixty().splitVerse(1, 0, 50), 60);
        due("the last one of 59", sixty().splitVerse(1, 58, 1999), 60);
        due("one of 58", books(58, 60).splitVerse(0, 57, 50), 59);
        VerseColumns x = sixty();
        x.splitVerse(1, 58, 1999);
        due("splitVerse at 60 then", x.splitVerse(1, 58, 50), FULL);
        due("joinVerses at 60 then", x.joinVerses(1, 0), 59);
        due("splitVerse at 59 again", x.splitVerse(1, 0, 50), 60);
    }

    private static void splitErrors() {
        sentence("Returns the number of verses of the book then; UNKNOWN; BAD_VALUE; NOT_POSSIBLE if there is no rest; FULL");
        refused("a book and letters", Checks::small, x -> x.splitVerse(2, 0, 0), UNKNOWN);
        refused("a verse and letters", Checks::small, x -> x.splitVerse(0, 4, 2000), UNKNOWN);
        refused("a verse below 0 and letters", Checks::small, x -> x.splitVerse(0, -1, 0), UNKNOWN);
        refused("a verse behind 60", BooksEdgeTest::sixty, x -> x.splitVerse(0, 60, 1), UNKNOWN);
        refused("a verse, no rest", Checks::small, x -> x.splitVerse(1, 2, 1999), UNKNOWN);
        refused("letters, no rest", Checks::small, x -> x.splitVerse(0, 0, 2000), BAD_VALUE);
        refused("letters, 60 verses", BooksEdgeTest::sixty, x -> x.splitVerse(0, 0, 0), BAD_VALUE);
        refused("letters, no rest, 60 verses", BooksEdgeTest::sixty, x -> x.splitVerse(0, 59, 2000), BAD_VALUE);
        refused("no rest, 60 verses", BooksEdgeTest::sixty, x -> x.splitVerse(0, 0, 100), NOT_POSSIBLE);
        refused("no rest, 60 verses", BooksEdgeTest::sixty, x -> x.splitVerse(0, 0, 1999), NOT_POSSIBLE);
        refused("no rest", Checks::small, x -> x.splitVerse(0, 1, 90), NOT_POSSIBLE);
        refused("60 verses", BooksEdgeTest::sixty, x -> x.splitVerse(0, 0, 99), FULL);
    }
}
