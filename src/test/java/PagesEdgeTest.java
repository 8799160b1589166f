import java.util.function.Supplier;

/**
 * Promises 16 to 18 and what the terms say of pages, with the measures of groups: each sentence that names a boundary
 * case, at and beside it.
 */
public final class PagesEdgeTest extends Checks {
    public static void main(String[] args) {
        widths();
        widthErrors();
        linesOfVerses();
        linesAtFirst();
        heights();
        heightErrors();
        measuresAtFirst();
        firstOfChapter();
        headingsFollow();
        headingHeights();
        greaterSum();
        sumsOfColumns();
        pageIsFull();
        fullWithNotes();
        oneLineMore();
        noteOfTheNextGroup();
        tooHighForAPage();
        tooManyNotes();
        pagesFromZero();
        noPages();
        mostPages();
        onePage();
        pageProperties();
        pageZeroOrMore();
        holdsMore();
        pageErrors();
        linesOfGroups();
        pagesOfGroups();
        notesOfGroups();
        emptyLines();
        finish();
    }

    private static VerseColumns ofLetters(int letters, int width) {
        VerseColumns x = new VerseColumns();
        x.addChapter(0, 1, letters);
        x.setWidth(0, width);
        return x;
    }

    private static VerseColumns measured(VerseColumns x, int pageHeight, int headingHeight) {
        x.setHeights(pageHeight, headingHeight);
        return x;
    }

    /** Left verses of so many lines each in groups of their own, without headings, on pages of a height. */
    private static VerseColumns lines(int pageHeight, int... lines) {
        VerseColumns x = new VerseColumns();
        for (int i = 0; i < lines.length; i++) {
            x.addChapter(0, 1, 10 * lines[i]);
        }
        x.setWidth(0, 10);
        x.setHeights(pageHeight, 0);
        return x;
    }

    private static VerseColumns noted(VerseColumns x, int... notes) {
        for (int i = 0; i < notes.length; i++) {
            x.setVerse(0, i, x.verse(0, i, 2), notes[i]);
        }
        return x;
    }

    private static void widths() {
        sentence("A column has a width in letters (10 to 200, at first 40 for both)");
        ends("setWidth of a new object", VerseColumns::new, 10, 200, (x, w) -> x.setWidth(0, w), w -> 40, BAD_VALUE);
        ends("setWidth of a new object", VerseColumns::new, 10, 200, (x, w) -> x.setWidth(1, w), w -> 40, BAD_VALUE);
        ends("setWidth", Checks::worn, 10, 200, (x, w) -> x.setWidth(0, w), w -> 50, BAD_VALUE);
        ends("setWidth", Checks::worn, 10, 200, (x, w) -> x.setWidth(1, w), w -> 30, BAD_VALUE);
        for (int width : new int[] {10, 11, 199, 200}) {
            VerseColumns x = worn();
            x.setWidth(0, width);
            due("setWidth(1, 40)", x.setWidth(1, 40), 30);
            due("setWidth(0, 40)", x.setWidth(0, 40), width);
            due("setWidth to the same", x.setWidth(0, 40), 40);
        }
    }

    private static void widthErrors() {
        sentence("Returns the previous width; UNKNOWN; BAD_VALUE.");
        refused("a book and a width", Checks::worn, x -> x.setWidth(2, 9), UNKNOWN);
        refused("a book and a width", Checks::worn, x -> x.setWidth(-1, 201), UNKNOWN);
        refused("a book", Checks::worn, x -> x.setWidth(2, 40), UNKNOWN);
        refused("a width", Checks::worn, x -> x.setWidth(1, 9), BAD_VALUE);
        refused("a width", Checks::worn, x -> x.setWidth(1, 0), BAD_VALUE);
    }

    private static void linesOfVerses() {
        sentence("All divisions round down.");
        sentence("a verse needs (letters + width - 1) / width lines in its column");
        int[][] rows = {{1, 10, 1}, {9, 10, 1}, {10, 10, 1}, {11, 10, 2}, {19, 10, 2}, {20, 10, 2}, {21, 10, 3},
            {1990, 10, 199}, {1991, 10, 200}, {2000, 10, 200}, {1, 200, 1}, {199, 200, 1}, {200, 200, 1}, {201, 200, 2},
            {1800, 200, 9}, {1801, 200, 10}, {2000, 200, 10}, {1, 11, 1}, {11, 11, 1}, {12, 11, 2}, {22, 11, 2},
            {23, 11, 3}, {2000, 11, 182}, {2000, 199, 11}, {1990, 199, 10}, {1991, 199, 11}};
        for (int[] row : rows) {
            VerseColumns x = ofLetters(row[0], row[1]);
            due("lines of " + row[0] + " letters at " + row[1], x.verse(0, 0, 4), row[2]);
            due("height of the group", measured(x, 40, 0).group(0, 5), row[2]);
        }
    }

    private static void linesAtFirst() {
        sentence("(10 to 200, at first 40 for both)");
        int[][] rows = {{1, 1}, {39, 1}, {40, 1}, {41, 2}, {80, 2}, {81, 3}, {1960, 49}, {1961, 50}, {2000, 50}};
        for (int[] row : rows) {
            for (int book = 0; book < 2; book++) {
                VerseColumns x = new VerseColumns();
                x.addChapter(book, 1, row[0]);
                due("lines of " + row[0] + " letters", x.verse(book, 0, 4), row[1]);
            }
        }
    }

    private static void heights() {
        sentence("A page has a height (5 to 200, at first 40).");
        ends("setHeights of a new object", VerseColumns::new, 5, 200, (x, h) -> x.setHeights(h, 2), h -> 40, BAD_VALUE);
        ends("setHeights", Checks::worn, 5, 200, (x, h) -> x.setHeights(h, 0), h -> 20, BAD_VALUE);
        for (int height : new int[] {5, 6, 199, 200}) {
            VerseColumns x = worn();
            x.setHeights(height, 1);
            due("setHeights(40, 2)", x.setHeights(40, 2), height);
            due("setHeights to the same", x.setHeights(40, 2), 40);
        }
    }

    private static void heightErrors() {
        sentence("Returns the previous height of pages; BAD_VALUE.");
        refused("both", Checks::worn, x -> x.setHeights(4, 6), BAD_VALUE);
        refused("both, far away", Checks::worn, x -> x.setHeights(MAX, MIN), BAD_VALUE);
        refused("a good height of pages", Checks::worn, x -> x.setHeights(5, -1), BAD_VALUE);
        refused("a good height of pages", Checks::worn, x -> x.setHeights(200, 6), BAD_VALUE);
        refused("a good height of headings", Checks::worn, x -> x.setHeights(4, 0), BAD_VALUE);
        refused("a good height of headings", Checks::worn, x -> x.setHeights(201, 5), BAD_VALUE);
    }

    private static void measuresAtFirst() {
        sentence("(0 to 5, at first 2)");
        due("height with a heading at first", books(1, 0).group(0, 5), 5);
        due("height without a heading", books(2, 0).group(1, 5), 3);
        // 40 lines at first: 10 letters need one line, so that 38 verses and a heading fill the page.
        VerseColumns x = new VerseColumns();
        x.addChapter(0, 38, 10);
        due("pages of 40 lines", x.count(9), 1);
        VerseColumns y = new VerseColumns();
        y.addChapter(0, 39, 10);
        due("pages of 41 lines", y.count(9), 2);
    }

    /** Left: chapters of 2 and 1 verses, right: of 1 and 2, of 3 lines each. */
    private static VerseColumns chapters() {
        VerseColumns x = new VerseColumns();
        x.addChapter(0, 2, 100);
        x.addChapter(0, 1, 100);
        x.addChapter(1, 1, 100);
        x.addChapter(1, 2, 100);
        return x;
    }

    private static void dueHeights(VerseColumns x, int... want) {
        for (int group = 0; group < want.length; group++) {
            due("group(" + group + ", 5)", x.group(group, 5), want[group]);
        }
        due("groups", x.count(4), want.length);
    }

    private static void firstOfChapter() {
        sentence("The first verse of a chapter has a heading ahead of it");
        dueHeights(chapters(), 5, 3, 5, 5, 5, 3);
        dueHeights(measured(chapters(), 40, 5), 8, 3, 8, 8, 8, 3);
        dueHeights(measured(chapters(), 40, 1), 4, 3, 4, 4, 4, 3);
        dueHeights(measured(chapters(), 40, 0), 3, 3, 3, 3, 3, 3);
        for (int verse = 0; verse < 3; verse++) {
            due("lines without a heading", chapters().verse(0, verse, 4), 3);
            due("lines without a heading", chapters().verse(1, verse, 4), 3);
        }
    }

    private static void headingsFollow() {
        sentence("has a heading ahead of it, of as many lines as the heading height");
        VerseColumns joined = chapters();
        joined.joinVerses(0, 0);
        dueHeights(joined, 7, 5, 5, 5, 3);
        VerseColumns split = chapters();
        split.splitVerse(0, 0, 40);
        dueHeights(split, 5, 3, 5, 5, 5, 3);
        split.part(0, 1, 0);
        dueHeights(split, 3, 2, 3, 5, 5, 5, 3);
        VerseColumns exchanged = chapters();
        exchanged.exchange();
        dueHeights(exchanged, 5, 3, 5, 5, 5, 3);
        VerseColumns undone = chapters();
        undone.addChapter(0, 1, 100);
        undone.undo();
        dueHeights(undone, 5, 3, 5, 5, 5, 3);
        VerseColumns full = books(60, 60);
        due("the first left verse", full.group(0, 5), 5);
        due("the last left verse", full.group(59, 5), 3);
        due("the first right verse", full.group(60, 5), 5);
        due("the last right verse", full.group(119, 5), 3);
    }

    private static void headingHeights() {
        sentence("of as many lines as the heading height (0 to 5, at first 2)");
        ends("setHeights, heading", VerseColumns::new, 0, 5, (x, h) -> x.setHeights(40, h), h -> 40, BAD_VALUE);
        ends("setHeights, heading", Checks::worn, 0, 5, (x, h) -> x.setHeights(40, h), h -> 20, BAD_VALUE);
        for (int heading = 0; heading <= 5; heading++) {
            due("height at a heading of " + heading, measured(books(1, 0), 40, heading).group(0, 5), 3 + heading);
            due("height at a heading of " + heading, measured(books(0, 1), 40, heading).group(0, 5), 3 + heading);
        }
    }

    /** One group of a left and a right verse with so many letters, at a width of 10. */
    private static VerseColumns beside(int left, int right, int heading) {
        VerseColumns x = new VerseColumns();
        x.addChapter(0, 1, left);
        x.addChapter(1, 1, right);
        x.pairAll();
        x.setWidth(0, 10);
        x.setWidth(1, 10);
        return measured(x, 40, heading);
    }

    private static void greaterSum() {
        sentence("The height of a group is the greater one of the sums of what its verses need in both columns, with their headings.");
        due("both the same", beside(30, 30, 0).group(0, 5), 3);
        due("the left one by a letter", beside(31, 30, 0).group(0, 5), 4);
        due("the right one by a letter", beside(30, 31, 0).group(0, 5), 4);
        due("the left one by far", beside(2000, 1, 5).group(0, 5), 205);
        due("the right one by far", beside(1, 2000, 5).group(0, 5), 205);
        due("the same with headings", beside(30, 21, 2).group(0, 5), 5);
    }

    private static void sumsOfColumns() {
        sentence("the sums of what its verses need in both columns, with their headings");
        // Left: 2 + 3 + 3 + 2 + 3, right: 2 + 3 + 2 + 3 + 3.
        VerseColumns all = chapters();
        put(all, "3+3");
        all.readMap();
        dueHeights(all, 13);
        // Left: 2 + 3 + 3 and 2 + 3, right: 2 + 3 and 2 + 3 + 3.
        VerseColumns two = chapters();
        put(two, "2+1,1+2");
        two.readMap();
        dueHeights(two, 8, 8);
        // Left: 2 + 3 and 3 + 2 + 3, right: 2 + 3 + 2 + 3 and 3.
        VerseColumns other = chapters();
        put(other, "1+2,2+1");
        other.readMap();
        dueHeights(other, 10, 8);
        due("60 of 200 lines", measuredSixty().group(0, 5), 60 * 200 + 5);
    }

    private static VerseColumns measuredSixty() {
        VerseColumns x = new VerseColumns();
        x.addChapter(0, 60, 2000);
        x.addChapter(1, 60, 2000);
        put(x, "60+60");
        x.readMap();
        x.setWidth(0, 10);
        x.setWidth(1, 200);
        return measured(x, 200, 5);
    }

    private static void duePages(VerseColumns x, int... pages) {
        for (int group = 0; group < pages.length; group++) {
            due("group(" + group + ", 6)", x.group(group, 6), pages[group]);
        }
        due("pages", x.count(9), pages[pages.length - 1] + 1);
    }

    private static void pageIsFull() {
        sentence("A group comes on the next page if the page has a group already and would hold more than its height otherwise.");
        duePages(lines(10, 4, 6), 0, 0);
        duePages(lines(10, 4, 5), 0, 0);
        duePages(lines(10, 4, 7), 0, 1);
        duePages(lines(10, 9, 1), 0, 0);
        duePages(lines(10, 10, 1), 0, 1);
        duePages(lines(10, 11, 1), 0, 1);
        duePages(lines(10, 3, 3, 4), 0, 0, 0);
        duePages(lines(10, 3, 3, 5), 0, 0, 1);
        duePages(lines(10, 3, 8, 2, 1), 0, 1, 1, 2);
        duePages(lines(5, 5, 5, 5), 0, 1, 2);
        duePages(lines(5, 2, 3, 5, 1, 4), 0, 0, 1, 2, 2);
        duePages(lines(200, 200, 200), 0, 1);
        duePages(lines(200, 100, 100, 1), 0, 0, 1);
        duePages(lines(199, 100, 100, 99), 0, 1, 1);
    }

    private static void fullWithNotes() {
        sentence("a page holds the heights of its groups, the lines of all notes of their verses, and one line more if there are any notes");
        // 3 + 3 lines, 3 lines of notes and one more.
        duePages(noted(lines(10, 3, 3), 1, 2), 0, 0);
        duePages(noted(lines(9, 3, 3), 1, 2), 0, 1);
        duePages(noted(lines(10, 3, 3), 1, 3), 0, 1);
        duePages(noted(lines(10, 3, 3), 3, 0), 0, 0);
        duePages(noted(lines(10, 3, 3), 4, 0), 0, 1);
        duePages(noted(lines(10, 3, 3), 0, 3), 0, 0);
        duePages(noted(lines(10, 3, 3), 0, 4), 0, 1);
        duePages(noted(lines(28, 3, 4), 10, 10), 0, 0);
        duePages(noted(lines(27, 3, 4), 10, 10), 0, 1);
        // Notes of the right column count as well.
        VerseColumns x = books(2, 2);
        x.pairAll();
        x.setVerse(0, 0, 100, 1);
        x.setVerse(1, 0, 100, 1);
        x.setVerse(1, 1, 100, 1);
        duePages(measured(x, 10, 0), 0, 0);
        duePages(measured(x, 9, 0), 0, 1);
        duePage(measured(x, 10, 0), 0, 0, 1, 6, 4, 0);
    }

    private static void oneLineMore() {
        sentence("and one line more if there are any notes");
        for (int note : new int[] {0, 1, 9, 10}) {
            due("note lines of the page", noted(lines(200, 3), note).page(0, 3), note == 0 ? 0 : note + 1);
        }
        duePages(noted(lines(6, 3, 3), 0, 0), 0, 0);
        duePages(noted(lines(7, 3, 3), 0, 1), 0, 1);
        duePages(noted(lines(8, 3, 3), 0, 1), 0, 0);
        duePages(noted(lines(8, 3, 3), 1, 0), 0, 0);
        due("one line more for both", noted(lines(200, 3, 3), 2, 3).page(0, 3), 6);
        // Each page has a line more of its own.
        VerseColumns two = noted(lines(8, 3, 3), 2, 3);
        duePage(two, 0, 0, 0, 3, 3, 0);
        duePage(two, 1, 1, 1, 3, 4, 0);
    }

    private static void noteOfTheNextGroup() {
        sentence("would hold more than its height otherwise");
        // The third group has no note, but does not fit beside the notes that are there.
        duePages(noted(lines(10, 3, 2, 2), 2, 0, 0), 0, 0, 0);
        duePages(noted(lines(9, 3, 2, 2), 2, 0, 0), 0, 0, 1);
        // On a new page the notes of the page before don't count.
        duePages(noted(lines(10, 3, 7, 3), 6, 0, 0), 0, 1, 1);
        duePages(noted(lines(10, 3, 7, 3), 6, 0, 1), 0, 1, 2);
    }

    private static void tooHighForAPage() {
        sentence("if the page has a group already");
        VerseColumns x = lines(5, 6, 1, 200, 1);
        duePages(x, 0, 1, 2, 3);
        duePage(x, 0, 0, 0, 6, 0, 1);
        duePage(x, 1, 1, 1, 1, 0, 0);
        duePage(x, 2, 2, 2, 200, 0, 1);
        VerseColumns most = measured(measuredSixty(), 5, 5);
        duePage(most, 0, 0, 0, 12005, 0, 1);
        due("pages", most.count(9), 1);
        // A page that holds more already takes no group of any height.
        duePages(lines(5, 6, 1), 0, 1);
    }

    private static void tooManyNotes() {
        sentence("4 for whether it holds more than its height (1, otherwise 0)");
        duePage(noted(lines(10, 3), 6), 0, 0, 0, 3, 7, 0);
        duePage(noted(lines(10, 3), 7), 0, 0, 0, 3, 8, 1);
        duePage(noted(lines(10, 3), 5), 0, 0, 0, 3, 6, 0);
        duePage(noted(lines(5, 1), 3), 0, 0, 0, 1, 4, 0);
        duePage(noted(lines(5, 1), 4), 0, 0, 0, 1, 5, 1);
        duePage(noted(lines(5, 5), 1), 0, 0, 0, 5, 2, 1);
        duePage(lines(5, 5), 0, 0, 0, 5, 0, 0);
        duePage(lines(5, 4), 0, 0, 0, 4, 0, 0);
    }

    private static void pagesFromZero() {
        sentence("Groups are put on pages, numbered from 0, in their order");
        Supplier<VerseColumns> x = () -> lines(10, 4, 6, 7, 3, 8);
        duePages(x.get(), 0, 0, 1, 1, 2);
        duePage(x.get(), 0, 0, 1, 10, 0, 0);
        duePage(x.get(), 1, 2, 3, 10, 0, 0);
        duePage(x.get(), 2, 4, 4, 8, 0, 0);
        for (int what = 0; what < 5; what++) {
            int w = what;
            for (int page : new int[] {3, 4, 119, 120, 1000, MAX}) {
                refused("page " + page, x, y -> y.page(page, w), NONE);
            }
            for (int page : new int[] {-1, -2, MIN}) {
                refused("page " + page, x, y -> y.page(page, w), BAD_VALUE);
            }
        }
    }

    private static void noPages() {
        sentence("NONE if there is no such page.");
        due("pages of a new object", new VerseColumns().count(9), 0);
        for (int what = 0; what < 5; what++) {
            int w = what;
            refused("page 0 of no groups", VerseColumns::new, x -> x.page(0, w), NONE);
            refused("page 0 of no groups", () -> measured(new VerseColumns(), 5, 0), x -> x.page(0, w), NONE);
            refused("page 1 of one page", () -> books(1, 1), x -> x.page(1, w), NONE);
        }
        VerseColumns x = books(1, 0);
        due("pages of one group", x.count(9), 1);
        x.undo();
        due("pages after undo()", x.count(9), 0);
        due("page(0, 0)", x.page(0, 0), NONE);
    }

    private static void mostPages() {
        sentence("Groups are put on pages");
        Supplier<VerseColumns> most = () -> {
            VerseColumns x = new VerseColumns();
            x.addChapter(0, 60, 2000);
            x.addChapter(1, 60, 2000);
            return measured(x, 5, 0);
        };
        due("pages", most.get().count(9), 120);
        duePage(most.get(), 0, 0, 0, 50, 0, 1);
        duePage(most.get(), 119, 119, 119, 50, 0, 1);
        due("the page of the last group", most.get().group(119, 6), 119);
        for (int what = 0; what < 5; what++) {
            int w = what;
            refused("page 120", most, x -> x.page(120, w), NONE);
        }
    }

    private static void onePage() {
        sentence("a page holds the heights of its groups");
        // 120 groups of one line.
        VerseColumns x = new VerseColumns();
        x.addChapter(0, 60, 10);
        x.addChapter(1, 60, 10);
        duePage(measured(x, 120, 0), 0, 0, 119, 120, 0, 0);
        due("pages", x.count(9), 1);
        duePage(measured(x, 119, 0), 0, 0, 118, 119, 0, 0);
        duePage(x, 1, 119, 119, 1, 0, 0);
        due("pages", x.count(9), 2);
        duePage(measured(x, 200, 5), 0, 0, 119, 130, 0, 0);
    }

    private static VerseColumns paged() {
        return noted(lines(12, 3, 4, 6), 1, 2, 3);
    }

    private static void pageProperties() {
        sentence("- `what`: 0 for its first and 1 for its last group");
        int[] want = {0, 1, 7, 4, 0};
        ends("page, what", PagesEdgeTest::paged, 0, 4, (x, what) -> x.page(0, what), what -> want[what], BAD_VALUE);
        duePage(paged(), 0, want);
        duePage(paged(), 1, 2, 2, 6, 4, 0);
        sentence("3 for the lines of its notes (with the one line more)");
        due("no notes", lines(12, 3).page(0, 3), 0);
        due("a note of 1", noted(lines(12, 3), 1).page(0, 3), 2);
    }

    private static void pageZeroOrMore() {
        sentence("- `page`: 0 or more");
        due("page 0", paged().page(0, 2), 7);
        due("page 1", paged().page(1, 2), 6);
        refused("page -1", PagesEdgeTest::paged, x -> x.page(-1, 2), BAD_VALUE);
        refused("page 2", PagesEdgeTest::paged, x -> x.page(2, 2), NONE);
        sentence("2 for the sum of the heights of its groups");
        due("one group", lines(5, 1).page(0, 2), 1);
        due("a page that is full", lines(5, 1, 4).page(0, 2), 5);
        due("a page that is too small", lines(5, 6).page(0, 2), 6);
        due("without the lines of notes", noted(lines(40, 1, 4), 10, 10).page(0, 2), 5);
    }

    private static void holdsMore() {
        sentence("whether it holds more than its height");
        due("one line less", lines(10, 9).page(0, 4), 0);
        due("just its height", lines(10, 10).page(0, 4), 0);
        due("one line more", lines(10, 11).page(0, 4), 1);
        due("two groups of its height", lines(10, 5, 5).page(0, 4), 0);
        due("its height with notes", noted(lines(10, 4, 3), 1, 1).page(0, 4), 0);
        due("the page behind it", lines(10, 11, 3).page(1, 4), 0);
    }

    private static void pageErrors() {
        sentence("BAD_VALUE if page is negative or what is out of range; NONE if there is no such page.");
        refused("a page below 0 and what", PagesEdgeTest::paged, x -> x.page(-1, 5), BAD_VALUE);
        refused("no such page and what", PagesEdgeTest::paged, x -> x.page(2, 5), BAD_VALUE);
        refused("no such page and what below 0", PagesEdgeTest::paged, x -> x.page(MAX, -1), BAD_VALUE);
        refused("no such page at all and what", VerseColumns::new, x -> x.page(0, 5), BAD_VALUE);
        refused("a page below 0 of no groups", VerseColumns::new, x -> x.page(-1, 0), BAD_VALUE);
        refused("no such page", PagesEdgeTest::paged, x -> x.page(2, 4), NONE);
    }

    private static void dueLines(VerseColumns x, int... want) {
        for (int group = 0; group < want.length; group++) {
            due("group(" + group + ", 7)", x.group(group, 7), want[group]);
        }
    }

    private static void linesOfGroups() {
        sentence("The line of a group is the sum of the heights of the groups before it on its page.");
        dueLines(lines(10, 4, 6, 7, 3, 8), 0, 4, 0, 7, 0);
        dueLines(lines(10, 1, 1, 1, 1), 0, 1, 2, 3);
        dueLines(lines(5, 6, 6), 0, 0);
        dueLines(noted(lines(20, 4, 3, 2), 5, 0, 1), 0, 4, 7);
        dueLines(measured(books(2, 0), 40, 5), 0, 8);
        dueLines(measured(books(2, 0), 10, 5), 0, 0);
        VerseColumns x = new VerseColumns();
        x.addChapter(0, 60, 10);
        x.addChapter(1, 60, 10);
        measured(x, 120, 0);
        due("the line of the last group", x.group(119, 7), 119);
        measured(x, 119, 0);
        due("the line of the last but one", x.group(118, 7), 118);
        due("the line of the last group", x.group(119, 7), 0);
    }

    private static void pagesOfGroups() {
        sentence("5 for its height, 6 for its page, 7 for its line, 8 for the lines of its notes");
        VerseColumns x = paged();
        int[][] want = {{3, 0, 0, 1}, {4, 0, 3, 2}, {6, 1, 0, 3}};
        for (int group = 0; group < 3; group++) {
            for (int what = 5; what < 9; what++) {
                due("group(" + group + ", " + what + ")", x.group(group, what), want[group][what - 5]);
            }
        }
    }

    private static void notesOfGroups() {
        sentence("8 for the lines of its notes");
        due("no notes", mapped(2, 2, "2+2").group(0, 8), 0);
        VerseColumns x = mapped(3, 2, "2+2,1<");
        x.setVerse(0, 0, 5, 10);
        x.setVerse(0, 1, 5, 10);
        x.setVerse(1, 0, 5, 10);
        x.setVerse(1, 1, 5, 1);
        due("notes of both columns, without a line more", x.group(0, 8), 31);
        due("no notes beside them", x.group(1, 8), 0);
        due("notes of the page, with a line more", x.page(0, 3), 32);
        VerseColumns most = mapped(60, 0, "60<");
        for (int verse = 0; verse < 60; verse++) {
            most.setVerse(0, verse, 5, 10);
        }
        for (int i = 0; i < 59; i++) {
            most.link(0);
        }
        due("600 lines of notes", most.group(0, 8), 600);
        due("601 lines on the page", most.page(0, 3), 601);
        due("it holds more than its height", most.page(0, 4), 1);
    }

    private static void emptyLines() {
        sentence("10 for empty lines in both columns beside the verses of groups (the sum, over all groups, of the difference of what both columns need, headings included)");
        due("no groups", new VerseColumns().count(10), 0);
        due("both the same", beside(30, 30, 2).count(10), 0);
        due("the left one by a line", beside(31, 30, 2).count(10), 1);
        due("the right one by a line", beside(30, 31, 2).count(10), 1);
        due("a left verse and a heading", books(1, 0).count(10), 5);
        due("a right verse and a heading", books(0, 1).count(10), 5);
        due("both in groups of their own", books(1, 1).count(10), 10);
        due("both beside each other", mapped(1, 1, "1=").count(10), 0);
        // Left: 5, 3 and 5 lines, right: 5, 5 and 3 lines.
        VerseColumns x = chapters();
        x.pairAll();
        due("differences of 0, 2 and 2", x.count(10), 4);
        due("without headings", measured(x, 40, 0).count(10), 0);
        x.setVerse(0, 1, 2000, 10);
        due("notes don't count", x.count(10), 47);
        due("60 of 200 lines beside 10", measuredSixty().count(10), 60 * 190);
    }
}
