import java.util.function.Supplier;

/**
 * Promises 12 to 15 and what the terms say of references: each sentence that names a boundary case, at and beside it.
 */
public final class TextEdgeTest extends Checks {
    public static void main(String[] args) {
        emptyAtFirst();
        eightyCharacters();
        anyCharacter();
        appended();
        cleared();
        emptied();
        threeForms();
        signsAtTheirPlaces();
        oneOrTwoDigits();
        noZerosInFront();
        digitsAlone();
        thirdDigits();
        endsTooEarly();
        chapterExists();
        secondChapterExists();
        verseExists();
        secondVerseExists();
        lastBeforeFirst();
        lastBeforeFirstInAChapter();
        chapterBeforeFirst();
        verseOrChapter();
        lookedAtAtTheEnd();
        lookedAtBeforeASign();
        notBeforeAThirdDigit();
        booksThatChange();
        whatIsAsked();
        referErrors();
        referNone();
        verseOfTheReference();
        otherVerses();
        groupsOfTheReference();
        groupsBetween();
        otherVersesOfThisBook();
        wholeBooks();
        besideEnds();
        besideNone();
        besideErrors();
        finish();
    }

    /** Left: ten chapters, each with as many verses as its number. */
    private static VerseColumns tens() {
        VerseColumns x = new VerseColumns();
        for (int chapter = 1; chapter <= 10; chapter++) {
            x.addChapter(0, chapter, 5);
        }
        return x;
    }

    private static void fault(String text, int fault) {
        dueReferenceFault(library(), 0, text, fault);
    }

    private static void names(String text, int first, int last) {
        dueReference(library(), 0, text, first, last);
    }

    private static void emptyAtFirst() {
        sentence("There is a text of at most 80 characters, empty at first.");
        due("clearText()", new VerseColumns().clearText(), 0);
        due("type('1')", new VerseColumns().type('1'), 1);
        due("refer(0, 0)", new VerseColumns().refer(0, 0), -100);
        due("readMap()", new VerseColumns().readMap(), -100);
    }

    private static VerseColumns typed(int length) {
        VerseColumns x = new VerseColumns();
        for (int i = 0; i < length; i++) {
            x.type('1');
        }
        return x;
    }

    private static void eightyCharacters() {
        sentence("Returns the length of the text then; FULL if it has 80 characters.");
        for (int length : new int[] {0, 1, 78, 79}) {
            due("type at " + length, typed(length).type('1'), length + 1);
        }
        for (char sign : new char[] {'1', ',', 0, 127, 255, 65535}) {
            refused("type at 80", () -> typed(80), x -> x.type(sign), FULL);
        }
        due("clearText() at 80", typed(80).clearText(), 80);
        due("clearText() after 81 calls of type", typed(81).clearText(), 80);
        VerseColumns x = typed(81);
        x.clearText();
        due("type after clearText()", x.type('1'), 1);
    }

    private static void anyCharacter() {
        sentence("- `character`: any character");
        for (char sign : new char[] {0, 1, '\n', ' ', '0', '~', 127, 128, 255, 256, 0xD800, 0xFFFE, 0xFFFF}) {
            VerseColumns x = books(1, 1);
            due("type " + (int) sign, x.type(sign), 1);
            due("refer", x.refer(0, 0), -100);
            due("type('1')", x.type('1'), 2);
            due("clearText()", x.clearText(), 2);
        }
    }

    private static void appended() {
        sentence("Appends a character to the text.");
        VerseColumns x = tens();
        int[] faults = {-101, -102, 1, -104, 1, -106, 1, -107};
        String text = "2:1-2:2:";
        for (int i = 0; i < text.length(); i++) {
            due("type", x.type(text.charAt(i)), i + 1);
            due("refer(0, 0) of \"" + text.substring(0, i + 1) + "\"", x.refer(0, 0), faults[i]);
        }
    }

    private static void emptied() {
        sentence("Empties the text.");
        VerseColumns x = put(tens(), "2:1-2:2");
        due("clearText()", x.clearText(), 7);
        due("refer(0, 0) of no text", x.refer(0, 0), -100);
        x.type('3');
        due("refer(0, 0) of \"3\"", x.refer(0, 0), -101);
        x.type(':');
        x.type('3');
        due("refer(0, 1) of \"3:3\"", x.refer(0, 1), 5);
        due("clearText()", x.clearText(), 3);
    }

    private static void cleared() {
        sentence("Returns the length that it had.");
        for (int length : new int[] {0, 1, 2, 79, 80}) {
            VerseColumns x = typed(length);
            due("clearText() at " + length, x.clearText(), length);
            due("clearText() again", x.clearText(), 0);
            due("refer(0, 0)", x.refer(0, 0), -100);
            due("type('1')", x.type('1'), 1);
        }
    }

    private static void threeForms() {
        sentence("A reference is written as chapter \":\" verse (one verse), or chapter \":\" verse \"-\" verse (verses of one chapter), or chapter \":\" verse \"-\" chapter \":\" verse");
        names("2:3", 5, 5);
        names("2:3-12", 5, 14);
        names("2:3-3:2", 5, 16);
        names("1:1-3:2", 0, 16);
        fault("2", 1);
        fault("2-3", 1);
        fault("2:3-3:2-", 7);
        fault("2:3-3:2:1", 7);
        fault("2:3-12-12", 6);
        fault("2:3:4", 3);
    }

    private static void signsAtTheirPlaces() {
        sentence("the index, from 0, of the first character that is not allowed at its place");
        for (char sign : new char[] {'/', ';', '9' + 128, ',', '.', ' ', 'x', 0, 127, 65535, ':' + 256, '-' + 256}) {
            fault("" + sign, 0);
            fault("2" + sign + "3", 1);
            fault("12" + sign + "3", 0);
            fault("2:" + sign, 2);
            fault("2:3" + sign, 3);
            fault("2:12" + sign, 4);
            fault("2:3-" + sign, 4);
            fault("2:3-4" + sign, 5);
            fault("2:3-12" + sign, 6);
            fault("2:3-3:" + sign, 6);
            fault("2:3-3:1" + sign, 7);
        }
        fault("2::3", 2);
        fault("2:-3", 2);
        fault("2:3--4", 4);
        fault("2:3-:", 4);
        fault("2:3-3::", 6);
        fault("2:3-3:-", 6);
        fault("2-3", 1);
    }

    private static void oneOrTwoDigits() {
        sentence("numbers have 1 or 2 digits");
        dueReference(tens(), 0, "9:9", 44, 44);
        dueReference(tens(), 0, "10:1", 45, 45);
        dueReference(tens(), 0, "10:10", 54, 54);
        dueReference(tens(), 0, "10:9-10", 53, 54);
        dueReference(tens(), 0, "10:10-10:10", 54, 54);
        dueReference(tens(), 0, "1:1-10:10", 0, 54);
        dueReference(books(60, 0), 0, "1:60", 59, 59);
        dueReference(books(0, 60), 1, "1:1-60", 0, 59);
        dueReferenceFault(books(60, 0), 0, "1:61", 2);
        dueReferenceFault(books(60, 0), 0, "1:99", 2);
        dueReferenceFault(tens(), 0, "11:1", 0);
        dueReferenceFault(tens(), 0, "99:1", 0);
    }

    private static void noZerosInFront() {
        sentence("without zeros in front");
        fault("0", 0);
        fault("0:1", 0);
        fault("01:1", 0);
        fault("00:1", 0);
        fault("2:0", 2);
        fault("2:03", 2);
        fault("2:00", 2);
        fault("2:3-0", 4);
        fault("2:3-03", 4);
        fault("2:3-0:1", 4);
        fault("2:3-03:1", 4);
        fault("2:3-3:0", 6);
        fault("2:3-3:01", 6);
        names("2:10", 12, 12);
        names("2:10-10", 12, 12);
    }

    private static void digitsAlone() {
        sentence("Numbers are looked at when they end (at the end of the text, or before the first character that is not a digit");
        for (char sign : new char[] {'1' + 128, '1' + 256, 0x0661, 0xFF11}) {
            fault("" + sign + ":1", 0);
            fault("1" + sign + ":1", 1);
            fault("2:" + sign, 2);
            fault("2:1" + sign, 3);
        }
    }

    private static void thirdDigits() {
        sentence("(a 3rd digit of a number, too)");
        fault("100:1", 2);
        fault("111", 2);
        fault("1111", 2);
        fault("2:100", 4);
        fault("2:123", 4);
        fault("2:3-100", 6);
        fault("2:3-100:1", 6);
        fault("2:3-3:100", 8);
        dueReferenceFault(tens(), 0, "10:100", 5);
        dueReferenceFault(tens(), 0, "10:10-100", 8);
        dueReferenceFault(tens(), 0, "10:10-10:100", 11);
    }

    private static void endsTooEarly() {
        sentence("or its length if it ends too early");
        fault("", 0);
        fault("2", 1);
        fault("2:", 2);
        fault("2:3-", 4);
        fault("2:12-", 5);
        fault("2:3-3:", 6);
        fault("2:12-3:", 7);
        dueReferenceFault(tens(), 0, "10", 2);
        dueReferenceFault(tens(), 0, "10:", 3);
        dueReferenceFault(tens(), 0, "10:10-", 6);
        dueReferenceFault(tens(), 0, "10:10-10:", 9);
        names("2:3", 5, 5);
        names("2:3-3", 5, 5);
    }

    private static void chapterExists() {
        sentence("What does not exist is a fault, too: a chapter at its first digit");
        names("1:1", 0, 0);
        names("3:1", 15, 15);
        fault("4:1", 0);
        fault("9:1", 0);
        fault("10:1", 0);
        fault("99:1", 0);
        dueReference(library(), 1, "2:1", 2, 2);
        dueReferenceFault(library(), 1, "3:1", 0);
        dueReferenceFault(new VerseColumns(), 0, "1:1", 0);
        dueReferenceFault(new VerseColumns(), 1, "1:1", 0);
        dueReferenceFault(books(1, 0), 1, "1:1", 0);
        dueReferenceFault(books(0, 1), 0, "1:1", 0);
    }

    private static void secondChapterExists() {
        sentence("a chapter at its first digit");
        names("1:1-3:1", 0, 15);
        fault("1:1-4:1", 4);
        fault("1:1-10:1", 4);
        fault("2:12-4:1", 5);
        dueReference(tens(), 0, "10:1-10:2", 45, 46);
        dueReferenceFault(tens(), 0, "10:1-11:1", 5);
    }

    private static void verseExists() {
        sentence("a verse at its first digit, and a last verse");
        names("1:3", 2, 2);
        fault("1:4", 2);
        fault("1:12", 2);
        names("2:12", 14, 14);
        fault("2:13", 2);
        fault("2:99", 2);
        names("3:2", 16, 16);
        fault("3:3", 2);
        dueReference(library(), 1, "2:9", 10, 10);
        dueReferenceFault(library(), 1, "2:10", 2);
        dueReferenceFault(tens(), 0, "1:2", 2);
        dueReferenceFault(tens(), 0, "10:11", 3);
    }

    private static void secondVerseExists() {
        sentence("a verse at its first digit");
        names("1:1-3", 0, 2);
        fault("1:1-4", 4);
        names("2:1-12", 3, 14);
        fault("2:1-13", 4);
        names("1:1-2:12", 0, 14);
        fault("1:1-2:13", 6);
        names("1:1-3:2", 0, 16);
        fault("1:1-3:3", 6);
        names("1:1-1:3", 0, 2);
        fault("1:1-1:4", 6);
        dueReferenceFault(tens(), 0, "10:1-10:11", 8);
    }

    private static void lastBeforeFirst() {
        sentence("a last verse that comes before the first verse");
        names("2:5-6", 7, 8);
        names("2:5-5", 7, 7);
        fault("2:5-4", 4);
        fault("2:5-1", 4);
        names("2:9-10", 11, 12);
        fault("2:10-9", 5);
        names("2:12-12", 14, 14);
        fault("2:12-11", 5);
        fault("2:12-2", 5);
        names("1:1-1", 0, 0);
    }

    private static void lastBeforeFirstInAChapter() {
        sentence("(the third form can have the same chapter twice, too)");
        names("2:5-2:6", 7, 8);
        names("2:5-2:5", 7, 7);
        fault("2:5-2:4", 6);
        fault("2:5-2:1", 6);
        fault("2:12-2:11", 7);
        names("2:9-2:10", 11, 12);
        fault("2:10-2:9", 7);
        names("1:1-1:1", 0, 0);
        // The number of a verse in a later chapter may be lower.
        names("2:12-3:1", 14, 15);
        names("1:3-2:1", 2, 3);
        names("1:3-3:1", 2, 15);
        dueReference(tens(), 0, "9:9-10:1", 44, 45);
    }

    private static void chapterBeforeFirst() {
        sentence("or the chapter of such a verse that comes before the first chapter, at its first digit");
        fault("2:1-1:3", 4);
        fault("2:1-1:1", 4);
        fault("2:1-1:9", 4);
        fault("2:1-1:", 4);
        fault("3:1-2:12", 4);
        fault("3:1-1:1", 4);
        fault("2:12-1:1", 5);
        names("3:1-3:1", 15, 15);
        dueReferenceFault(tens(), 0, "10:1-9:9", 5);
        dueReferenceFault(tens(), 0, "10:10-9:9", 6);
    }

    private static void verseOrChapter() {
        sentence("In the second form a number behind \"-\" can be a verse or a chapter: this is decided when the character behind it is known (\":\" or not).");
        // A chapter that is no verse, and a verse that is no chapter.
        dueReference(tens(), 0, "1:1-3:1", 0, 3);
        dueReferenceFault(tens(), 0, "1:1-3", 4);
        dueReferenceFault(tens(), 0, "1:1-3x", 4);
        dueReferenceFault(tens(), 0, "1:1-3-", 4);
        names("2:1-4", 3, 6);
        fault("2:1-4:1", 4);
        fault("2:1-4:", 4);
        names("2:3-3", 5, 5);
        names("2:3-3:1", 5, 15);
        // Before the first verse as a verse, but not as a chapter, and the other way round.
        fault("1:3-2", 4);
        names("1:3-2:1", 2, 3);
        names("3:1-2", 15, 16);
        fault("3:1-2:1", 4);
        fault("3:1-2:", 4);
        fault("2:3-2", 4);
        fault("2:3-2:", 6);
        fault("2:3-2:2", 6);
        fault("2:3-12:", 4);
        fault("2:3-12;", 6);
    }

    private static void lookedAtAtTheEnd() {
        sentence("at the end of the text");
        fault("4", 0);
        fault("44", 0);
        fault("3", 1);
        fault("1:4", 2);
        fault("1:44", 2);
        fault("1:2-1", 4);
        fault("1:2-44", 4);
        fault("1:2-1:1", 6);
        fault("1:2-1:44", 6);
    }

    private static void lookedAtBeforeASign() {
        sentence("or before the first character that is not a digit");
        fault("4x", 0);
        fault("44-", 0);
        fault("3x", 1);
        fault("1:4x", 2);
        fault("1:44:", 2);
        fault("1:3x", 3);
        fault("1:2-4x", 4);
        fault("1:2-44-", 4);
        fault("1:2-1x", 4);
        fault("1:2-3x", 5);
        fault("1:2-4:x", 4);
        fault("1:2-3:3x", 6);
        fault("1:2-3:44x", 6);
        fault("1:2-3:2x", 7);
    }

    private static void notBeforeAThirdDigit() {
        sentence("but not before a 3rd digit");
        fault("444", 2);
        fault("444:1", 2);
        fault("2:444", 4);
        fault("2:444x", 4);
        fault("1:2-444", 6);
        fault("1:2-444:1", 6);
        fault("1:2-111", 6);
        fault("1:2-3:444", 8);
        fault("1:2-1:111", 8);
    }

    private static void booksThatChange() {
        sentence("As a reference in a book");
        VerseColumns x = put(books(2, 2), "1:2");
        due("refer(0, 0)", x.refer(0, 0), 1);
        x.joinVerses(0, 0);
        due("refer(0, 0) after a join", x.refer(0, 0), -102);
        x.undo();
        due("refer(0, 0) after undo()", x.refer(0, 0), 1);
        put(x, "1:3");
        due("refer(0, 0)", x.refer(0, 0), -102);
        x.splitVerse(0, 0, 50);
        due("refer(0, 0) after a split", x.refer(0, 0), 2);
        due("refer(1, 0) after a split", x.refer(1, 0), -102);
        x.exchange();
        due("refer(0, 0) after an exchange", x.refer(0, 0), -102);
        due("refer(1, 0) after an exchange", x.refer(1, 0), 2);
    }

    private static VerseColumns referring() {
        return put(worn(), "1:2-3");
    }

    private static void whatIsAsked() {
        sentence("- `what`: 0 for the first and 1 for the last verse of the reference");
        // Groups 2+2 and 1+0: the reference begins in the first one and ends in the second one.
        int[] want = {1, 2, 0, 1, 2, 2, 0};
        ends("refer, what", TextEdgeTest::referring, 0, 6, (x, what) -> x.refer(0, what), what -> want[what], BAD_VALUE);
        dueProperties(referring(), 0, want);
    }

    private static void referErrors() {
        sentence("Returns the number; UNKNOWN; BAD_VALUE; -100 minus the fault of the text if it has one; NONE for 2 and 3 if there are no such verses.");
        Supplier<VerseColumns> bad = () -> put(worn(), "1:2-4");
        Supplier<VerseColumns> none = () -> put(worn(), "2:1");
        refused("a book and what", Checks::worn, x -> x.refer(2, 7), UNKNOWN);
        refused("a book and a fault", bad, x -> x.refer(-1, 0), UNKNOWN);
        refused("a book, what and a fault", bad, x -> x.refer(2, -1), UNKNOWN);
        refused("a book, no such verses", none, x -> x.refer(2, 2), UNKNOWN);
        refused("what and a fault", bad, x -> x.refer(0, 7), BAD_VALUE);
        refused("what below 0 and a fault", bad, x -> x.refer(0, -1), BAD_VALUE);
        refused("what, no such verses", none, x -> x.refer(0, 7), BAD_VALUE);
        for (int what = 0; what < 7; what++) {
            int w = what;
            refused("a fault", bad, x -> x.refer(0, w), -104);
            refused("a fault in the other book", none, x -> x.refer(1, w), -100);
            refused("a fault of no text", () -> put(worn(), ""), x -> x.refer(0, w), -100);
        }
        refused("no such verses", none, x -> x.refer(0, 2), NONE);
        refused("no such verses", none, x -> x.refer(0, 3), NONE);
    }

    private static void referNone() {
        sentence("NONE for 2 and 3 if there are no such verses.");
        dueProperties(put(mapped(2, 2, "1<,1>,1="), "1:1"), 0, 0, 0, NONE, NONE, 1, 0, 1);
        dueProperties(put(mapped(2, 2, "1<,1>,1="), "1:2"), 0, 1, 1, 1, 1, 1, 1, 1);
        dueProperties(put(mapped(2, 2, "1<,1>,1="), "1:1"), 1, 0, 0, NONE, NONE, 1, 0, 1);
        dueProperties(put(books(60, 60), "1:1-60"), 0, 0, 59, NONE, NONE, 60, 0, 1);
        dueProperties(put(books(1, 0), "1:1"), 0, 0, 0, NONE, NONE, 1, 0, 1);
        dueProperties(put(mapped(1, 1, "1="), "1:1"), 0, 0, 0, 0, 0, 1, 1, 1);
    }

    private static void verseOfTheReference() {
        sentence("0 for the first and 1 for the last verse of the reference");
        dueReference(library(), 0, "1:1", 0, 0);
        dueReference(library(), 0, "3:2", 16, 16);
        dueReference(library(), 0, "1:1-3:2", 0, 16);
        dueReference(library(), 1, "1:1-2:9", 0, 10);
        dueReference(books(60, 60), 1, "1:60", 59, 59);
    }

    private static void otherVerses() {
        sentence("2 for the first and 3 for the last verse of the other book in these groups");
        VerseColumns x = mapped(60, 60, "1+1,58=,1+1");
        dueProperties(put(x, "1:1"), 0, 0, 0, 0, 0);
        dueProperties(put(x, "1:2"), 0, 1, 1, 1, 1);
        dueProperties(put(x, "1:60"), 0, 59, 59, 59, 59);
        dueProperties(put(x, "1:1-60"), 0, 0, 59, 0, 59);
        dueProperties(put(x, "1:59-60"), 1, 58, 59, 58, 59);
        VerseColumns wide = mapped(3, 60, "1<,1+60,1<");
        dueProperties(put(wide, "1:1-2"), 0, 0, 1, 0, 59);
        dueProperties(put(wide, "1:2-3"), 0, 1, 2, 0, 59);
        dueProperties(put(wide, "1:1"), 0, 0, 0, NONE, NONE);
        dueProperties(put(wide, "1:3"), 0, 2, 2, NONE, NONE);
    }

    private static void groupsOfTheReference() {
        sentence("looks at all groups with at least one of its verses");
        // Left verses 0 1 | 2 3 4 | 5, right verses 0 | 1 2 | 3 4 5.
        Supplier<VerseColumns> x = () -> mapped(6, 6, "2+1,3+2,1+3");
        dueProperties(put(x.get(), "1:1"), 0, 0, 0, 0, 0, 1, 1, 0);
        dueProperties(put(x.get(), "1:2"), 0, 1, 1, 0, 0, 1, 1, 0);
        dueProperties(put(x.get(), "1:1-2"), 0, 0, 1, 0, 0, 1, 1, 1);
        dueProperties(put(x.get(), "1:2-3"), 0, 1, 2, 0, 2, 2, 3, 0);
        dueProperties(put(x.get(), "1:3"), 0, 2, 2, 1, 2, 1, 2, 0);
        dueProperties(put(x.get(), "1:3-5"), 0, 2, 4, 1, 2, 1, 2, 1);
        dueProperties(put(x.get(), "1:5"), 0, 4, 4, 1, 2, 1, 2, 0);
        dueProperties(put(x.get(), "1:5-6"), 0, 4, 5, 1, 5, 2, 5, 0);
        dueProperties(put(x.get(), "1:6"), 0, 5, 5, 3, 5, 1, 3, 1);
        dueProperties(put(x.get(), "1:2-6"), 0, 1, 5, 0, 5, 3, 6, 0);
        dueProperties(put(x.get(), "1:1-6"), 0, 0, 5, 0, 5, 3, 6, 1);
        dueProperties(put(x.get(), "1:1"), 1, 0, 0, 0, 1, 1, 2, 1);
        dueProperties(put(x.get(), "1:3-4"), 1, 2, 3, 2, 5, 2, 4, 0);
        dueProperties(put(x.get(), "1:4-6"), 1, 3, 5, 5, 5, 1, 1, 1);
    }

    private static void groupsBetween() {
        sentence("(a group of the other book alone that lies between two of them is none of these)");
        Supplier<VerseColumns> x = () -> mapped(3, 6, "1>,1=,1>,1=,2>,1<");
        dueProperties(put(x.get(), "1:1"), 0, 0, 0, 1, 1, 1, 1, 1);
        dueProperties(put(x.get(), "1:1-2"), 0, 0, 1, 1, 3, 2, 2, 1);
        dueProperties(put(x.get(), "1:2-3"), 0, 1, 2, 3, 3, 2, 1, 1);
        dueProperties(put(x.get(), "1:3"), 0, 2, 2, NONE, NONE, 1, 0, 1);
        dueProperties(put(x.get(), "1:1-3"), 0, 0, 2, 1, 3, 3, 2, 1);
        dueProperties(put(x.get(), "1:1-6"), 1, 0, 5, 0, 1, 6, 2, 1);
        Supplier<VerseColumns> alone = () -> mapped(2, 3, "1<,3>,1<");
        dueProperties(put(alone.get(), "1:1-2"), 0, 0, 1, NONE, NONE, 2, 0, 1);
        dueProperties(put(alone.get(), "1:2"), 1, 1, 1, NONE, NONE, 1, 0, 1);
    }

    private static void otherVersesOfThisBook() {
        sentence("6 for 1 if these groups have no other verses of this book, otherwise 0");
        Supplier<VerseColumns> x = () -> mapped(5, 2, "1<,3+2,1<");
        due("all but the first one", put(x.get(), "1:3-4").refer(0, 6), 0);
        due("all but the last one", put(x.get(), "1:2-3").refer(0, 6), 0);
        due("all of the group", put(x.get(), "1:2-4").refer(0, 6), 1);
        due("one more ahead", put(x.get(), "1:1-4").refer(0, 6), 1);
        due("one more behind", put(x.get(), "1:2-5").refer(0, 6), 1);
        due("a part and one more ahead", put(x.get(), "1:1-2").refer(0, 6), 0);
        due("a part and one more behind", put(x.get(), "1:4-5").refer(0, 6), 0);
        due("the one ahead", put(x.get(), "1:1").refer(0, 6), 1);
        due("one of two right ones", put(x.get(), "1:2").refer(1, 6), 0);
        due("both right ones", put(x.get(), "1:1-2").refer(1, 6), 1);
    }

    private static void wholeBooks() {
        sentence("4 for the number of these groups, 5 for the number of verses of the other book in them");
        dueProperties(put(mapped(60, 60, "60+60"), "1:1-60"), 0, 0, 59, 0, 59, 1, 60, 1);
        dueProperties(put(mapped(60, 60, "60+60"), "1:60"), 0, 59, 59, 0, 59, 1, 60, 0);
        dueProperties(put(mapped(60, 60, "60+60"), "1:1"), 1, 0, 0, 0, 59, 1, 60, 0);
        dueProperties(put(mapped(60, 60, "60="), "1:1-60"), 1, 0, 59, 0, 59, 60, 60, 1);
        dueProperties(put(mapped(60, 1, "59<,1="), "1:59-60"), 0, 58, 59, 0, 0, 2, 1, 1);
        dueProperties(put(mapped(60, 60, "1+60,59<"), "1:2-60"), 0, 1, 59, NONE, NONE, 59, 0, 1);
    }

    private static void besideEnds() {
        sentence("0 for its group, 1 for the first and 2 for the last verse of the other book in this group");
        int[] want = {0, 0, 1};
        ends("beside, what", Checks::worn, 0, 2, (x, what) -> x.beside(0, 1, what), what -> want[what], BAD_VALUE);
        VerseColumns one = mapped(60, 60, "1+60,59<");
        due("beside(0, 0, 1)", one.beside(0, 0, 1), 0);
        due("beside(0, 0, 2)", one.beside(0, 0, 2), 59);
        due("beside(1, 59, 1)", one.beside(1, 59, 1), 0);
        due("beside(1, 59, 2)", one.beside(1, 59, 2), 0);
        due("beside(0, 59, 0)", one.beside(0, 59, 0), 59);
        VerseColumns x = mapped(4, 4, "1+2,2+1,1=");
        int[][] left = {{0, 0, 1}, {1, 2, 2}, {1, 2, 2}, {2, 3, 3}};
        int[][] right = {{0, 0, 0}, {0, 0, 0}, {1, 1, 2}, {2, 3, 3}};
        for (int verse = 0; verse < 4; verse++) {
            for (int what = 0; what < 3; what++) {
                due("beside(0, " + verse + ", " + what + ")", x.beside(0, verse, what), left[verse][what]);
                due("beside(1, " + verse + ", " + what + ")", x.beside(1, verse, what), right[verse][what]);
            }
        }
        VerseColumns alone = books(60, 60);
        due("the group of the last left verse", alone.beside(0, 59, 0), 59);
        due("the group of the first right verse", alone.beside(1, 0, 0), 60);
        due("the group of the last right verse", alone.beside(1, 59, 0), 119);
    }

    private static void besideNone() {
        sentence("NONE for 1 and 2 if there are none.");
        for (int what = 1; what < 3; what++) {
            int w = what;
            refused("a left verse alone", Checks::worn, x -> x.beside(0, 3, w), NONE);
            refused("a right verse alone", Checks::small, x -> x.beside(1, 1, w), NONE);
            refused("one of 120", () -> books(60, 60), x -> x.beside(1, 59, w), NONE);
        }
        due("the group of a left verse alone", worn().beside(0, 3, 0), 2);
        due("the group of a right verse alone", small().beside(1, 1, 0), 5);
    }

    private static void besideErrors() {
        sentence("Returns the number; UNKNOWN; BAD_VALUE; NONE for 1 and 2");
        refused("a book and what", Checks::worn, x -> x.beside(2, 0, 3), UNKNOWN);
        refused("a book, none", Checks::small, x -> x.beside(-1, 0, 1), UNKNOWN);
        refused("a verse and what", Checks::worn, x -> x.beside(0, 4, 3), UNKNOWN);
        refused("a verse below 0 and what", Checks::worn, x -> x.beside(0, -1, -1), UNKNOWN);
        refused("a verse of the other book", Checks::worn, x -> x.beside(1, 2, 0), UNKNOWN);
        refused("what, none", Checks::small, x -> x.beside(0, 0, 3), BAD_VALUE);
        refused("what below 0, none", Checks::small, x -> x.beside(0, 0, -1), BAD_VALUE);
        refused("no verses", VerseColumns::new, x -> x.beside(0, 0, 0), UNKNOWN);
    }
}
