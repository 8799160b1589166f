import java.io.IOException;
import java.nio.charset.StandardCharsets;
import java.nio.file.Files;
import java.nio.file.Path;
import java.util.ArrayList;
import java.util.List;
import java.util.TreeSet;
import java.util.function.IntUnaryOperator;
import java.util.function.Supplier;
import java.util.function.ToIntFunction;

/** What the tests share: answers compared with those that are due, texts, small books, and all that an object shows. */
abstract class Checks {
    static final int UNKNOWN = -1;
    static final int BAD_VALUE = -2;
    static final int FULL = -3;
    static final int NOT_POSSIBLE = -4;
    static final int NONE = -5;
    static final int MIN = Integer.MIN_VALUE;
    static final int MAX = Integer.MAX_VALUE;

    /** Told with each wrong answer: a promise, or a sentence of the document. */
    static String about = "";

    private static final Path DOCUMENT = Path.of("../shared/DOC.md");
    private static String document = "";
    private static int wrong = 0;
    private static int asked = 0;

    /** A call with one argument that is looked at. */
    interface Call {
        int ask(VerseColumns x, int value);
    }

    static void finish() {
        System.out.println(asked + " answers looked at, " + wrong + " wrong");
        if (wrong != 0) {
            System.exit(1);
        }
    }

    static void due(String call, long got, long want) {
        asked++;
        if (got != want) {
            wrong++;
            System.out.println(about + ": " + call + " answered " + got + ", due is " + want);
        }
    }

    static void same(String call, Object got, Object want) {
        asked++;
        if (!got.equals(want)) {
            wrong++;
            System.out.println(about + ": after " + call + "\n  there is " + got + "\n  due is   " + want);
        }
    }

    /** What the next answers are about: words that must stand in the document, so that no test outlives its sentence. */
    static void sentence(String words) {
        about = words;
        if (document.isEmpty()) {
            document = read(DOCUMENT);
        }
        asked++;
        if (!document.contains(words)) {
            wrong++;
            System.out.println("the document doesn't say: " + words);
        }
    }

    private static String read(Path file) {
        try {
            return Files.readString(file, StandardCharsets.UTF_8);
        } catch (IOException e) {
            return "no document: " + e;
        }
    }

    // ---- refused calls

    /** The call answers the error or NONE, and nothing is changed by it. */
    static void refused(String call, Supplier<VerseColumns> made, ToIntFunction<VerseColumns> asks, int want) {
        due(call, asks.applyAsInt(made.get()), want);
        same(call, everything(() -> {
            VerseColumns x = made.get();
            asks.applyAsInt(x);
            return x;
        }), everything(made));
    }

    /** Answered at both ends of a range and just inside, refused just outside and far outside. */
    static void ends(String call, Supplier<VerseColumns> made, int least, int greatest, Call asks, IntUnaryOperator want,
            int error) {
        for (int value : new TreeSet<>(List.of(least, Math.min(least + 1, greatest), Math.max(greatest - 1, least), greatest))) {
            due(call + " with " + value, asks.ask(made.get(), value), want.applyAsInt(value));
        }
        for (int value : new int[] {least - 1, greatest + 1, MIN, MAX}) {
            refused(call + " with " + value, made, x -> asks.ask(x, value), error);
        }
    }

    /** All that the calls show, in parts: each part of an object of its own, as an object is used for 512 calls. */
    static List<List<Integer>> everything(Supplier<VerseColumns> made) {
        List<List<Integer>> parts = new ArrayList<>();
        parts.add(countsAndChapters(made.get()));
        parts.add(verses(made.get(), 0));
        parts.add(verses(made.get(), 1));
        int groups = made.get().count(4);
        for (int from = 0; from < groups; from += 30) {
            parts.add(groups(made.get(), from, Math.min(from + 30, groups)));
        }
        int pages = made.get().count(9);
        for (int from = 0; from < pages; from += 60) {
            parts.add(pages(made.get(), from, Math.min(from + 60, pages)));
        }
        parts.add(textAndMeasures(made.get()));
        for (int undos = 1; undos <= made.get().count(11) + 1; undos++) {
            parts.add(lettersOfState(made.get(), undos));
            parts.add(mapOfState(made.get(), undos));
        }
        return parts;
    }

    static List<Integer> countsAndChapters(VerseColumns x) {
        List<Integer> all = new ArrayList<>();
        for (int what = 0; what < 12; what++) {
            all.add(x.count(what));
        }
        for (int book = 0; book < 2; book++) {
            for (int chapter = 1; chapter <= all.get(book); chapter++) {
                for (int what = 0; what < 3; what++) {
                    all.add(x.chapter(book, chapter, what));
                }
            }
        }
        return all;
    }

    static List<Integer> verses(VerseColumns x, int book) {
        List<Integer> all = new ArrayList<>();
        int verses = x.count(2 + book);
        for (int verse = 0; verse < verses; verse++) {
            for (int what = 0; what < 5; what++) {
                all.add(x.verse(book, verse, what));
            }
        }
        return all;
    }

    static List<Integer> groups(VerseColumns x, int from, int end) {
        List<Integer> all = new ArrayList<>();
        for (int group = from; group < end; group++) {
            for (int what = 0; what < 9; what++) {
                all.add(x.group(group, what));
            }
        }
        return all;
    }

    private static List<Integer> pages(VerseColumns x, int from, int end) {
        List<Integer> all = new ArrayList<>();
        for (int page = from; page < end; page++) {
            for (int what = 0; what < 5; what++) {
                all.add(x.page(page, what));
            }
        }
        return all;
    }

    /** The height of headings is seen by the heights of groups alone. */
    private static List<Integer> textAndMeasures(VerseColumns x) {
        List<Integer> all = new ArrayList<>();
        for (int what = 0; what < 7; what++) {
            all.add(x.refer(0, what));
            all.add(x.refer(1, what));
        }
        all.add(x.setWidth(0, 10));
        all.add(x.setWidth(1, 10));
        all.add(x.setHeights(5, 0));
        all.add(x.readMap());
        all.add(x.clearText());
        return all;
    }

    private static List<Integer> undone(VerseColumns x, int undos) {
        List<Integer> all = new ArrayList<>();
        for (int i = 0; i < undos; i++) {
            all.add(x.undo());
        }
        return all;
    }

    private static List<Integer> lettersOfState(VerseColumns x, int undos) {
        List<Integer> all = undone(x, undos);
        for (int book = 0; book < 2; book++) {
            int verses = x.count(2 + book);
            for (int verse = 0; verse < verses; verse++) {
                all.add(x.verse(book, verse, 2));
                all.add(x.verse(book, verse, 3));
            }
        }
        return all;
    }

    private static List<Integer> mapOfState(VerseColumns x, int undos) {
        List<Integer> all = undone(x, undos);
        for (int book = 0; book < 2; book++) {
            int chapters = x.count(book);
            for (int chapter = 1; chapter <= chapters; chapter++) {
                all.add(x.chapter(book, chapter, 1));
            }
        }
        int groups = x.count(4);
        for (int group = 0; group < groups; group++) {
            all.add(x.group(group, 2));
            all.add(x.group(group, 4));
        }
        return all;
    }

    // ---- the map

    /** The map as pairs of sizes, such as "1+1 2+0". */
    static String map(VerseColumns x) {
        StringBuilder map = new StringBuilder();
        int groups = x.count(4);
        for (int group = 0; group < groups; group++) {
            map.append(group == 0 ? "" : " ").append(x.group(group, 2)).append('+').append(x.group(group, 4));
        }
        return map.toString();
    }

    static void dueMap(VerseColumns x, String want) {
        same("these calls", map(x), want);
    }

    static void dueMapFault(VerseColumns x, String text, int fault) {
        put(x, text);
        due("readMap of \"" + text + "\"", x.readMap(), -100 - fault);
    }

    static void dueMapRead(VerseColumns x, String text, String want) {
        put(x, text);
        int groups = want.split(" ").length;
        due("readMap of \"" + text + "\"", x.readMap(), groups);
        dueMap(x, want);
    }

    // ---- texts and references

    static VerseColumns put(VerseColumns x, String text) {
        x.clearText();
        for (char sign : text.toCharArray()) {
            x.type(sign);
        }
        return x;
    }

    static void dueReference(VerseColumns x, int book, String text, int first, int last) {
        put(x, text);
        due("refer(" + book + ", 0) of \"" + text + "\"", x.refer(book, 0), first);
        due("refer(" + book + ", 1) of \"" + text + "\"", x.refer(book, 1), last);
    }

    static void dueReferenceFault(VerseColumns x, int book, String text, int fault) {
        put(x, text);
        for (int what = 0; what < 7; what++) {
            due("refer(" + book + ", " + what + ") of \"" + text + "\"", x.refer(book, what), -100 - fault);
        }
    }

    static void dueProperties(VerseColumns x, int book, int... want) {
        for (int what = 0; what < want.length; what++) {
            due("refer(" + book + ", " + what + ")", x.refer(book, what), want[what]);
        }
    }

    static void duePage(VerseColumns x, int page, int... want) {
        for (int what = 0; what < want.length; what++) {
            due("page(" + page + ", " + what + ")", x.page(page, what), want[what]);
        }
    }

    static void dueGroup(VerseColumns x, int group, int... want) {
        for (int what = 0; what < want.length; what++) {
            due("group(" + group + ", " + what + ")", x.group(group, what), want[what]);
        }
    }

    // ---- objects to begin with

    /** A chapter of so many verses in each book, of 100 letters each; no chapter for 0. */
    static VerseColumns books(int left, int right) {
        VerseColumns x = new VerseColumns();
        if (left > 0) {
            x.addChapter(0, left, 100);
        }
        if (right > 0) {
            x.addChapter(1, right, 100);
        }
        return x;
    }

    /** The same with a map that is read from a text, which stays. */
    static VerseColumns mapped(int left, int right, String text) {
        VerseColumns x = put(books(left, right), text);
        x.readMap();
        return x;
    }

    /** Left: chapters of 3 and 1 verses, right: one of 2; each verse alone in its group; 4 states in the history. */
    static VerseColumns small() {
        VerseColumns x = new VerseColumns();
        x.addChapter(0, 3, 100);
        x.addChapter(0, 1, 250);
        x.addChapter(1, 2, 130);
        x.setVerse(0, 1, 90, 3);
        x.setWidth(0, 50);
        x.setWidth(1, 30);
        x.setHeights(20, 3);
        return put(x, "1:2-3");
    }

    /** The same with the map 2+2 1+0 1+0 and a full history. */
    static VerseColumns worn() {
        VerseColumns x = small();
        x.pairAll();
        x.link(0);
        return x;
    }

    /** A book with so many chapters of one verse each. */
    static VerseColumns chapters(int book, int chapters) {
        VerseColumns x = new VerseColumns();
        for (int i = 0; i < chapters; i++) {
            x.addChapter(book, 1, 5);
        }
        return x;
    }

    /** Left: chapters of 3, 12 and 2 verses; right: of 2 and 9. */
    static VerseColumns library() {
        VerseColumns x = new VerseColumns();
        x.addChapter(0, 3, 100);
        x.addChapter(0, 12, 100);
        x.addChapter(0, 2, 100);
        x.addChapter(1, 2, 100);
        x.addChapter(1, 9, 100);
        return x;
    }
}
