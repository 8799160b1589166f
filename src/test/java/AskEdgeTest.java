import java.util.List;
import java.util.function.Supplier;
import java.util.function.ToIntFunction;

/**
 * Promises 19 to 22, the constants, the order of errors and the 512th call: each sentence that names a boundary case,
 * at and beside it.
 */
public final class AskEdgeTest extends Checks {
    public static void main(String[] args) {
        constants();
        chapterEnds();
        chapterWhat();
        chapterSums();
        chapterErrors();
        verseEnds();
        verseWhat();
        verseErrors();
        groupEnds();
        groupWhat();
        groupNone();
        groupErrors();
        countEnds();
        countsOfKinds();
        countsAtTheMost();
        statesInTheHistory();
        orderOfErrors();
        noneOnlyWithoutErrors();
        asksChangeNothing();
        lastCall();
        finish();
    }

    private static void constants() {
        sentence("`UNKNOWN = -1`: There is no such book, chapter, verse or group.");
        due("UNKNOWN", VerseColumns.UNKNOWN, -1);
        sentence("`BAD_VALUE = -2`: Another argument is out of range.");
        due("BAD_VALUE", VerseColumns.BAD_VALUE, -2);
        sentence("`FULL = -3`: There is no more room.");
        due("FULL", VerseColumns.FULL, -3);
        sentence("`NOT_POSSIBLE = -4`: This is not possible.");
        due("NOT_POSSIBLE", VerseColumns.NOT_POSSIBLE, -4);
        sentence("`NONE = -5`: There is no such thing; not an error.");
        due("NONE", VerseColumns.NONE, -5);
    }

    private static void chapterEnds() {
        sentence("- `chapter`: a chapter, from 1");
        ends("chapter", Checks::library, 1, 3, (x, c) -> x.chapter(0, c, 1), c -> new int[] {3, 12, 2}[c - 1], UNKNOWN);
        ends("chapter", Checks::library, 1, 2, (x, c) -> x.chapter(1, c, 1), c -> new int[] {2, 9}[c - 1], UNKNOWN);
        ends("chapter of 10", () -> chapters(0, 10), 1, 10, (x, c) -> x.chapter(0, c, 2), c -> 5, UNKNOWN);
        ends("chapter of 1", () -> books(60, 60), 1, 1, (x, c) -> x.chapter(1, c, 1), c -> 60, UNKNOWN);
        for (int chapter : new int[] {0, 1, -1, 10, MIN, MAX}) {
            refused("chapter of no book", VerseColumns::new, x -> x.chapter(0, chapter, 0), UNKNOWN);
            refused("chapter of an empty book", () -> books(2, 0), x -> x.chapter(1, chapter, 0), UNKNOWN);
        }
        VerseColumns x = library();
        x.undo();
        x.undo();
        x.undo();
        due("a chapter that was undone", x.chapter(0, 3, 0), UNKNOWN);
        due("the last one that is left", x.chapter(0, 2, 0), 3);
    }

    private static void chapterWhat() {
        sentence("0 for its first verse, 1 for the number of its verses, 2 for the letters of all its verses");
        int[] want = {3, 12, 1200};
        ends("chapter, what", Checks::library, 0, 2, (x, what) -> x.chapter(0, 2, what), what -> want[what], BAD_VALUE);
        VerseColumns x = library();
        int[][] left = {{0, 3, 300}, {3, 12, 1200}, {15, 2, 200}};
        for (int chapter = 1; chapter <= 3; chapter++) {
            for (int what = 0; what < 3; what++) {
                due("chapter(0, " + chapter + ", " + what + ")", x.chapter(0, chapter, what), left[chapter - 1][what]);
            }
        }
    }

    private static void chapterSums() {
        sentence("2 for the letters of all its verses");
        VerseColumns most = new VerseColumns();
        most.addChapter(0, 60, 2000);
        due("60 verses of 2000 letters", most.chapter(0, 1, 2), 120000);
        VerseColumns least = new VerseColumns();
        least.addChapter(1, 1, 1);
        due("one verse of 1 letter", least.chapter(1, 1, 2), 1);
        VerseColumns x = library();
        x.setVerse(0, 2, 1, 0);
        x.setVerse(0, 3, 2000, 0);
        x.setVerse(0, 14, 7, 0);
        x.setVerse(0, 15, 9, 0);
        due("the chapter before", x.chapter(0, 1, 2), 201);
        due("the chapter", x.chapter(0, 2, 2), 3007);
        due("the chapter behind", x.chapter(0, 3, 2), 109);
        // A join to more than 2000 letters loses the rest.
        x.joinVerses(0, 3);
        due("the chapter after a join", x.chapter(0, 2, 2), 2907);
    }

    private static void chapterErrors() {
        sentence("Returns the property; UNKNOWN; BAD_VALUE.");
        refused("a book and what", Checks::library, x -> x.chapter(2, 1, 3), UNKNOWN);
        refused("a book, a chapter and what", Checks::library, x -> x.chapter(-1, 0, -1), UNKNOWN);
        refused("a chapter and what", Checks::library, x -> x.chapter(0, 4, 3), UNKNOWN);
        refused("a chapter 0 and what", Checks::library, x -> x.chapter(0, 0, -1), UNKNOWN);
        refused("a chapter of the other book and what", Checks::library, x -> x.chapter(1, 3, 3), UNKNOWN);
        refused("what", Checks::library, x -> x.chapter(1, 2, 3), BAD_VALUE);
    }

    private static void verseEnds() {
        sentence("- `verse`: a verse");
        ends("verse", Checks::library, 0, 16, (x, v) -> x.verse(0, v, 0), v -> v < 3 ? 1 : 3, UNKNOWN);
        ends("verse", Checks::library, 0, 10, (x, v) -> x.verse(1, v, 0), v -> v < 2 ? 1 : 2, UNKNOWN);
        ends("verse of 60", () -> books(60, 60), 0, 59, (x, v) -> x.verse(0, v, 1), v -> v + 1, UNKNOWN);
        ends("verse of 1", () -> books(1, 60), 0, 0, (x, v) -> x.verse(0, v, 1), v -> 1, UNKNOWN);
        for (int verse : new int[] {0, 1, -1, 59, 60, MIN, MAX}) {
            refused("verse of no book", VerseColumns::new, x -> x.verse(0, verse, 0), UNKNOWN);
            refused("verse of an empty book", () -> books(60, 0), x -> x.verse(1, verse, 0), UNKNOWN);
        }
    }

    private static VerseColumns asked() {
        VerseColumns x = library();
        x.setVerse(0, 13, 81, 7);
        return x;
    }

    private static void verseWhat() {
        sentence("0 for its chapter, 1 for its number in the chapter, 2 for its letters, 3 for the lines of its note, 4 for the lines that it needs (without a heading)");
        int[] want = {2, 11, 81, 7, 3};
        ends("verse, what", AskEdgeTest::asked, 0, 4, (x, what) -> x.verse(0, 13, what), what -> want[what], BAD_VALUE);
        for (int what = 0; what < 5; what++) {
            due("verse(0, 13, " + what + ")", asked().verse(0, 13, what), want[what]);
        }
        due("the first verse of a chapter, without a heading", asked().verse(0, 3, 4), 3);
        due("its number", asked().verse(0, 3, 1), 1);
        due("the number of the last verse of the chapter before", asked().verse(0, 2, 1), 3);
    }

    private static void verseErrors() {
        sentence("Returns the property; UNKNOWN; BAD_VALUE.");
        refused("a book and what", Checks::library, x -> x.verse(2, 0, 5), UNKNOWN);
        refused("a book, a verse and what", Checks::library, x -> x.verse(-1, -1, -1), UNKNOWN);
        refused("a verse and what", Checks::library, x -> x.verse(0, 17, 5), UNKNOWN);
        refused("a verse below 0 and what", Checks::library, x -> x.verse(0, -1, -1), UNKNOWN);
        refused("a verse of the other book and what", Checks::library, x -> x.verse(1, 11, 5), UNKNOWN);
        refused("what", Checks::library, x -> x.verse(1, 10, 5), BAD_VALUE);
    }

    private static void groupEnds() {
        sentence("- `group`: a group");
        ends("group", Checks::worn, 0, 2, (x, g) -> x.group(g, 1), g -> g == 0 ? 0 : g + 1, UNKNOWN);
        ends("group of 120", () -> books(60, 60), 0, 119, (x, g) -> x.group(g, 0), g -> g < 60 ? 1 : 2, UNKNOWN);
        ends("group of 1", () -> mapped(60, 60, "60+60"), 0, 0, (x, g) -> x.group(g, 0), g -> 3, UNKNOWN);
    }

    private static void groupWhat() {
        sentence("- `what`: 0 for its kind, 1 for its first verse of the left book and 2 for the number of them, 3 for its first verse of the right book and 4 for the number of them");
        // 2+2 on pages of 20 lines, headings of 3: left 3 + 2 + 2, right 3 + 5 + 5 lines.
        int[] want = {3, 0, 2, 0, 2, 13, 0, 0, 3};
        ends("group, what", Checks::worn, 0, 8, (x, what) -> x.group(0, what), what -> want[what], BAD_VALUE);
        dueGroup(worn(), 0, want);
        // 13 and 2 lines, a note of 3 and its line more are 19: no room for 8 more on a page of 20.
        dueGroup(worn(), 1, 1, 2, 1, NONE, 0, 2, 0, 13, 0);
        dueGroup(worn(), 2, 1, 3, 1, NONE, 0, 8, 1, 0, 0);
    }

    private static void groupNone() {
        sentence("NONE for 1 and 3 if it has no such verses.");
        refused("no right verses", Checks::worn, x -> x.group(1, 3), NONE);
        refused("no left verses", Checks::small, x -> x.group(5, 1), NONE);
        refused("no right verses", () -> books(60, 60), x -> x.group(0, 3), NONE);
        refused("no left verses", () -> books(60, 60), x -> x.group(119, 1), NONE);
        due("the number of no right verses", worn().group(1, 4), 0);
        due("the number of no left verses", small().group(5, 2), 0);
        due("the first one of the left book", worn().group(0, 1), 0);
        due("the first one of the right book", worn().group(0, 3), 0);
        due("the last one of the left book", books(60, 60).group(59, 1), 59);
        due("the last one of the right book", books(60, 60).group(119, 3), 59);
    }

    private static void groupErrors() {
        sentence("Returns the property; UNKNOWN; BAD_VALUE; NONE for 1 and 3");
        refused("a group and what", Checks::worn, x -> x.group(3, 9), UNKNOWN);
        refused("a group below 0 and what", Checks::worn, x -> x.group(-1, -1), UNKNOWN);
        refused("a group that would have none", Checks::worn, x -> x.group(3, 3), UNKNOWN);
        refused("what in a group that has none", Checks::worn, x -> x.group(1, 9), BAD_VALUE);
        refused("what below 0", Checks::worn, x -> x.group(1, -1), BAD_VALUE);
        refused("no groups", VerseColumns::new, x -> x.group(0, 9), UNKNOWN);
    }

    private static void countEnds() {
        sentence("Returns the number; BAD_VALUE.");
        // 2+2, 1+0 and 1+0: heights of 13, 2 and 8 lines, and 6 empty lines beside the first one.
        int[] want = {2, 1, 4, 2, 3, 0, 2, 0, 1, 2, 16, 5};
        ends("count", Checks::worn, 0, 11, (x, what) -> x.count(what), what -> want[what], BAD_VALUE);
        for (int what = 0; what < 12; what++) {
            due("count(" + what + ")", worn().count(what), want[what]);
        }
        for (int what : new int[] {-1, 12, 13, -100, MIN, MAX}) {
            refused("count(" + what + ")", VerseColumns::new, x -> x.count(what), BAD_VALUE);
        }
    }

    private static void countsOfKinds() {
        sentence("5 to 8 for the groups of the kinds 0 to 3");
        VerseColumns x = mapped(16, 17, "3=,4<,5>,1+2,2+1,2+2,3+3,1=");
        int[] want = {4, 4, 5, 4};
        for (int kind = 0; kind < 4; kind++) {
            due("count(" + (5 + kind) + ")", x.count(5 + kind), want[kind]);
        }
        due("count(4)", x.count(4), 17);
    }

    private static void countsAtTheMost() {
        sentence("0 and 1 for the chapters of the left and the right book, 2 and 3 for their verses, 4 for groups");
        VerseColumns x = new VerseColumns();
        for (int i = 0; i < 10; i++) {
            x.addChapter(0, 6, 5);
            x.addChapter(1, 6, 5);
        }
        int[] want = {10, 10, 60, 60, 120, 0, 60, 60, 0};
        for (int what = 0; what < want.length; what++) {
            due("count(" + what + ")", x.count(what), want[what]);
        }
        due("count(11)", x.count(11), 5);
        VerseColumns left = books(60, 0);
        due("count(2) of a left book alone", left.count(2), 60);
        due("count(3) of a left book alone", left.count(3), 0);
        due("count(4) of a left book alone", left.count(4), 60);
    }

    private static void statesInTheHistory() {
        sentence("11 for the states in the history");
        VerseColumns x = new VerseColumns();
        for (int acts = 0; acts <= 7; acts++) {
            due("count(11) after " + acts + " acts", x.count(11), Math.min(acts, 5));
            x.pairAll();
        }
        for (int left = 4; left >= 0; left--) {
            x.undo();
            due("count(11)", x.count(11), left);
        }
        x.undo();
        due("count(11) after an undo() of none", x.count(11), 0);
    }

    private static void orderOfErrors() {
        sentence("Where several errors can apply, the order of the @return line is the order of the checks.");
        VerseColumns x = books(60, 60);
        due("addChapter: no book, verses, letters, full", x.addChapter(2, 61, 2001), UNKNOWN);
        due("addChapter: verses, letters, full", x.addChapter(0, 61, 2001), BAD_VALUE);
        due("addChapter: letters, full", x.addChapter(0, 60, 2001), BAD_VALUE);
        due("addChapter: full", x.addChapter(0, 60, 2000), FULL);
        due("setVerse: no verse, letters, note", x.setVerse(0, 60, 0, 11), UNKNOWN);
        due("setVerse: letters, note", x.setVerse(0, 59, 0, 11), BAD_VALUE);
        due("joinVerses: no verse, behind the last one", x.joinVerses(0, 60), UNKNOWN);
        due("joinVerses: the last one", x.joinVerses(0, 59), NOT_POSSIBLE);
        due("splitVerse: no verse, letters, no rest, full", x.splitVerse(0, 60, 2000), UNKNOWN);
        due("splitVerse: letters, no rest, full", x.splitVerse(0, 59, 2000), BAD_VALUE);
        due("splitVerse: no rest, full", x.splitVerse(0, 59, 1999), NOT_POSSIBLE);
        due("splitVerse: full", x.splitVerse(0, 59, 99), FULL);
        due("link: no group, behind the last one", x.link(120), UNKNOWN);
        due("link: the last one", x.link(119), NOT_POSSIBLE);
        due("part: no group, left, not so many", x.part(120, 61, 61), UNKNOWN);
        due("part: left, not so many", x.part(119, 61, 60), BAD_VALUE);
        due("part: not so many", x.part(119, 60, 60), NOT_POSSIBLE);
        due("refer: no book, what, fault", x.refer(2, 7), UNKNOWN);
        due("refer: what, fault", x.refer(1, 7), BAD_VALUE);
        due("refer: fault", x.refer(1, 2), -100);
        due("beside: no verse, what", x.beside(1, 60, 3), UNKNOWN);
        due("beside: what, none", x.beside(1, 59, 3), BAD_VALUE);
        due("beside: none", x.beside(1, 59, 2), NONE);
        due("setWidth: no book, width", x.setWidth(2, 201), UNKNOWN);
        due("setWidth: width", x.setWidth(1, 201), BAD_VALUE);
        due("page: what, none", x.page(120, 5), BAD_VALUE);
        due("page: none", x.page(120, 4), NONE);
        due("chapter: no chapter, what", x.chapter(1, 2, 3), UNKNOWN);
        due("chapter: what", x.chapter(1, 1, 3), BAD_VALUE);
        due("verse: no verse, what", x.verse(1, 60, 5), UNKNOWN);
        due("verse: what", x.verse(1, 59, 5), BAD_VALUE);
        due("group: no group, what", x.group(120, 9), UNKNOWN);
        due("group: what, none", x.group(119, 9), BAD_VALUE);
        due("group: none", x.group(119, 1), NONE);
        due("undo", x.undo(), 1);
    }

    private static void noneOnlyWithoutErrors() {
        sentence("NONE is returned only if no error applies.");
        Supplier<VerseColumns> alone = () -> put(worn(), "2:1");
        Supplier<VerseColumns> bad = () -> put(worn(), "2:2");
        due("NONE of refer", alone.get().refer(0, 2), NONE);
        due("a fault", bad.get().refer(0, 2), -102);
        due("what", alone.get().refer(0, 7), BAD_VALUE);
        due("NONE of beside", alone.get().beside(0, 3, 1), NONE);
        due("what", alone.get().beside(0, 3, 3), BAD_VALUE);
        due("a verse", alone.get().beside(0, 4, 1), UNKNOWN);
        due("NONE of page", alone.get().page(9, 0), NONE);
        due("what", alone.get().page(9, 5), BAD_VALUE);
        due("NONE of group", alone.get().group(2, 3), NONE);
        due("what", alone.get().group(2, 9), BAD_VALUE);
        due("a group", alone.get().group(3, 3), UNKNOWN);
    }

    private static void asksChangeNothing() {
        sentence("Nothing is promised beyond the answers and state changes described above");
        List<ToIntFunction<VerseColumns>> asks = List.of(x -> x.refer(0, 4), x -> x.beside(0, 1, 2), x -> x.page(1, 2),
            x -> x.chapter(0, 2, 2), x -> x.verse(1, 1, 4), x -> x.group(2, 7), x -> x.count(10));
        int[] want = {2, 1, 8, 250, 5, 0, 16};
        for (int i = 0; i < want.length; i++) {
            refused("an ask", Checks::worn, asks.get(i), want[i]);
        }
    }

    /** The object after 511 calls: chapters, and then the same call again and again. */
    private static VerseColumns used(ToIntFunction<VerseColumns> call) {
        VerseColumns x = worn();
        // Making a worn object takes 15 calls: 4 acts, 3 measures, clearText, 5 signs and 2 acts.
        for (int i = 15; i < 511; i++) {
            call.applyAsInt(x);
        }
        return x;
    }

    private static void lastCall() {
        sentence("An object is used for at most 512 calls after it has been made");
        List<ToIntFunction<VerseColumns>> calls = List.of(VerseColumns::pairAll, x -> x.setVerse(0, 0, 55, 1),
            x -> x.type('1'), VerseColumns::clearText, VerseColumns::undo, x -> x.refer(0, 0), x -> x.page(0, 0),
            x -> x.addChapter(1, 1, 5), x -> x.splitVerse(0, 0, 1), x -> x.joinVerses(0, 0), x -> x.link(0),
            VerseColumns::readMap, x -> x.count(10));
        for (ToIntFunction<VerseColumns> call : calls) {
            due("the 512th call", used(call).setHeights(5, 0), 20);
        }
        due("pairAll()", used(VerseColumns::pairAll).pairAll(), 4);
        due("exchange()", used(VerseColumns::exchange).exchange(), 1);
        due("undo()", used(VerseColumns::pairAll).undo(), 4);
        due("count(11)", used(VerseColumns::exchange).count(11), 5);
        due("setVerse", used(x -> x.setVerse(0, 0, 55, 1)).setVerse(0, 0, 1, 0), 55);
        due("type", used(x -> x.type('1')).type('1'), FULL);
        due("clearText()", used(x -> x.type('1')).clearText(), 80);
        due("addChapter", used(x -> x.addChapter(1, 1, 5)).addChapter(1, 1, 5), FULL);
        due("splitVerse", used(x -> x.splitVerse(1, 0, 129)).splitVerse(1, 0, 1), 4);
        due("undo()", used(VerseColumns::undo).undo(), NONE);
        due("refer(0, 1)", used(x -> x.refer(0, 0)).refer(0, 1), 2);
        due("page(1, 0)", used(x -> x.page(0, 0)).page(1, 0), 2);
    }
}
