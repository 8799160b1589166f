import java.util.ArrayList;
import java.util.List;

/** For each promise of the document: ordinary inputs, the edges it names, and wrong inputs. */
public final class PromiseTest extends Checks {
    public static void main(String[] args) {
        constants();
        newObject();
        addChapter();
        setVerse();
        joinVerses();
        joinVersesAcrossGroups();
        splitVerse();
        link();
        part();
        readMap();
        readMapFaults();
        readMapFaultsOfRests();
        pairAll();
        exchange();
        undo();
        undoAfterEachAct();
        noActs();
        type();
        clearText();
        refer();
        referNamesLastBeforeFirst();
        referFaults();
        referSecondNumber();
        beside();
        setWidth();
        setHeights();
        page();
        pageNotes();
        pageBreaks();
        chapter();
        verse();
        group();
        count();
        errorsChangeNothing();
        finish();
    }

    /** Everything that the calls show but for pages, the text and how many states the history has. */
    private static List<Integer> all(VerseColumns x) {
        List<Integer> all = countsAndChapters(x);
        all.remove(11);
        all.addAll(verses(x, 0));
        all.addAll(verses(x, 1));
        all.addAll(groups(x, 0, x.count(4)));
        return all;
    }

    private static void constants() {
        about = "constants";
        due("UNKNOWN", VerseColumns.UNKNOWN, -1);
        due("BAD_VALUE", VerseColumns.BAD_VALUE, -2);
        due("FULL", VerseColumns.FULL, -3);
        due("NOT_POSSIBLE", VerseColumns.NOT_POSSIBLE, -4);
        due("NONE", VerseColumns.NONE, -5);
    }

    private static void newObject() {
        about = "1 new object";
        VerseColumns x = new VerseColumns();
        for (int what = 0; what < 12; what++) {
            due("count(" + what + ")", x.count(what), 0);
        }
        due("chapter(0, 1, 0)", x.chapter(0, 1, 0), UNKNOWN);
        due("verse(1, 0, 0)", x.verse(1, 0, 0), UNKNOWN);
        due("group(0, 0)", x.group(0, 0), UNKNOWN);
        due("page(0, 0)", x.page(0, 0), NONE);
        due("undo()", x.undo(), NONE);
        due("refer(0, 0)", x.refer(0, 0), -100);
        due("readMap()", x.readMap(), -100);
        due("clearText()", x.clearText(), 0);
        due("setWidth(0, 50)", x.setWidth(0, 50), 40);
        due("setWidth(1, 50)", x.setWidth(1, 50), 40);
        due("setHeights(50, 1)", x.setHeights(50, 1), 40);
        due("link(0)", x.link(0), UNKNOWN);
        due("part(0, 0, 0)", x.part(0, 0, 0), UNKNOWN);
        due("exchange()", x.exchange(), 0);
        due("pairAll()", x.pairAll(), 0);
        VerseColumns other = books(2, 3);
        due("count(2) of another object", other.count(2), 2);
        due("count(2)", x.count(2), 0);
    }

    private static void addChapter() {
        about = "2 addChapter";
        VerseColumns x = new VerseColumns();
        due("addChapter(2, 0, 0)", x.addChapter(2, 0, 0), UNKNOWN);
        due("addChapter(-1, 1, 1)", x.addChapter(-1, 1, 1), UNKNOWN);
        due("addChapter(0, 0, 1)", x.addChapter(0, 0, 1), BAD_VALUE);
        due("addChapter(0, 61, 1)", x.addChapter(0, 61, 1), BAD_VALUE);
        due("addChapter(0, MAX, 1)", x.addChapter(0, MAX, 1), BAD_VALUE);
        due("addChapter(0, MIN, 1)", x.addChapter(0, MIN, 1), BAD_VALUE);
        due("addChapter(1, 1, 0)", x.addChapter(1, 1, 0), BAD_VALUE);
        due("addChapter(1, 1, 2001)", x.addChapter(1, 1, 2001), BAD_VALUE);
        due("count(11)", x.count(11), 0);
        due("addChapter(0, 2, 2000)", x.addChapter(0, 2, 2000), 1);
        due("addChapter(1, 1, 1)", x.addChapter(1, 1, 1), 1);
        due("addChapter(0, 3, 7)", x.addChapter(0, 3, 7), 2);
        dueMap(x, "1+0 1+0 0+1 1+0 1+0 1+0");
        due("verse(0, 1, 2)", x.verse(0, 1, 2), 2000);
        due("verse(0, 2, 2)", x.verse(0, 2, 2), 7);
        due("verse(0, 2, 0)", x.verse(0, 2, 0), 2);
        due("verse(0, 4, 3)", x.verse(0, 4, 3), 0);
        due("verse(1, 0, 2)", x.verse(1, 0, 2), 1);
        due("addChapter(0, 56, 7)", x.addChapter(0, 56, 7), FULL);
        due("addChapter(0, 61, 7)", x.addChapter(0, 61, 7), BAD_VALUE);
        due("addChapter(0, 55, 7)", x.addChapter(0, 55, 7), 3);
        due("addChapter(0, 1, 7)", x.addChapter(0, 1, 7), FULL);
        due("addChapter(1, 59, 7)", x.addChapter(1, 59, 7), 2);
        due("addChapter(1, 1, 7)", x.addChapter(1, 1, 7), FULL);
        due("count(4)", x.count(4), 120);
        due("group(119, 3)", x.group(119, 3), 59);
        VerseColumns y = new VerseColumns();
        for (int chapter = 1; chapter <= 10; chapter++) {
            due("addChapter(1, 1, 5)", y.addChapter(1, 1, 5), chapter);
        }
        due("addChapter(1, 1, 5)", y.addChapter(1, 1, 5), FULL);
        due("addChapter(1, 1, 0)", y.addChapter(1, 1, 0), BAD_VALUE);
        due("addChapter(0, 60, 5)", y.addChapter(0, 60, 5), 1);
        due("count(1)", y.count(1), 10);
    }

    private static void setVerse() {
        about = "3 setVerse";
        VerseColumns x = books(2, 3);
        due("setVerse(2, 0, 0, 0)", x.setVerse(2, 0, 0, 0), UNKNOWN);
        due("setVerse(-1, 0, 1, 0)", x.setVerse(-1, 0, 1, 0), UNKNOWN);
        due("setVerse(0, 2, 0, 0)", x.setVerse(0, 2, 0, 0), UNKNOWN);
        due("setVerse(0, -1, 1, 0)", x.setVerse(0, -1, 1, 0), UNKNOWN);
        due("setVerse(1, MAX, 1, 0)", x.setVerse(1, MAX, 1, 0), UNKNOWN);
        due("setVerse(1, 2, 0, 0)", x.setVerse(1, 2, 0, 0), BAD_VALUE);
        due("setVerse(1, 2, 2001, 0)", x.setVerse(1, 2, 2001, 0), BAD_VALUE);
        due("setVerse(1, 2, 1, -1)", x.setVerse(1, 2, 1, -1), BAD_VALUE);
        due("setVerse(1, 2, 1, 11)", x.setVerse(1, 2, 1, 11), BAD_VALUE);
        due("count(11)", x.count(11), 2);
        due("setVerse(1, 2, 2000, 10)", x.setVerse(1, 2, 2000, 10), 100);
        due("setVerse(1, 2, 1, 0)", x.setVerse(1, 2, 1, 0), 2000);
        due("setVerse(1, 2, 1, 0)", x.setVerse(1, 2, 1, 0), 1);
        due("count(11)", x.count(11), 5);
        due("setVerse(0, 1, 33, 4)", x.setVerse(0, 1, 33, 4), 100);
        due("verse(0, 1, 2)", x.verse(0, 1, 2), 33);
        due("verse(0, 1, 3)", x.verse(0, 1, 3), 4);
        due("verse(0, 0, 2)", x.verse(0, 0, 2), 100);
        due("verse(1, 1, 2)", x.verse(1, 1, 2), 100);
        due("verse(1, 1, 3)", x.verse(1, 1, 3), 0);
    }

    private static void joinVerses() {
        about = "4 joinVerses";
        VerseColumns x = books(3, 2);
        x.addChapter(0, 2, 1500);
        due("joinVerses(2, 0)", x.joinVerses(2, 0), UNKNOWN);
        due("joinVerses(0, 5)", x.joinVerses(0, 5), UNKNOWN);
        due("joinVerses(0, -1)", x.joinVerses(0, -1), UNKNOWN);
        due("joinVerses(0, MAX)", x.joinVerses(0, MAX), UNKNOWN);
        due("joinVerses(0, MIN)", x.joinVerses(0, MIN), UNKNOWN);
        due("joinVerses(0, 2)", x.joinVerses(0, 2), NOT_POSSIBLE);
        due("joinVerses(0, 4)", x.joinVerses(0, 4), NOT_POSSIBLE);
        due("joinVerses(1, 1)", x.joinVerses(1, 1), NOT_POSSIBLE);
        due("count(11)", x.count(11), 3);
        x.setVerse(0, 3, 1500, 4);
        x.setVerse(0, 4, 501, 7);
        due("joinVerses(0, 3)", x.joinVerses(0, 3), 4);
        due("verse(0, 3, 2)", x.verse(0, 3, 2), 2000);
        due("verse(0, 3, 3)", x.verse(0, 3, 3), 10);
        due("chapter(0, 2, 1)", x.chapter(0, 2, 1), 1);
        x.setVerse(0, 1, 99, 3);
        x.setVerse(0, 2, 1, 2);
        due("joinVerses(0, 1)", x.joinVerses(0, 1), 3);
        due("verse(0, 1, 2)", x.verse(0, 1, 2), 100);
        due("verse(0, 1, 3)", x.verse(0, 1, 3), 5);
        due("verse(0, 0, 2)", x.verse(0, 0, 2), 100);
        due("verse(0, 2, 2)", x.verse(0, 2, 2), 2000);
        due("chapter(0, 1, 1)", x.chapter(0, 1, 1), 2);
        due("joinVerses(0, 1)", x.joinVerses(0, 1), NOT_POSSIBLE);
        due("joinVerses(0, 0)", x.joinVerses(0, 0), 2);
        due("verse(0, 0, 2)", x.verse(0, 0, 2), 200);
        due("count(2)", x.count(2), 2);
        due("count(0)", x.count(0), 2);
    }

    private static void joinVersesAcrossGroups() {
        about = "4 joinVerses across groups";
        VerseColumns x = books(4, 3);
        dueMapRead(x, "2=,1>,2<", "1+1 1+1 0+1 1+0 1+0");
        due("joinVerses(0, 1)", x.joinVerses(0, 1), 3);
        dueMap(x, "1+1 1+2 1+0");
        due("joinVerses(1, 1)", x.joinVerses(1, 1), 2);
        dueMap(x, "1+1 1+1 1+0");
        due("undo()", x.undo(), 4);
        dueMap(x, "1+1 1+2 1+0");
        due("joinVerses(0, 0)", x.joinVerses(0, 0), 2);
        dueMap(x, "1+3 1+0");
        due("joinVerses(0, 0)", x.joinVerses(0, 0), 1);
        dueMap(x, "1+3");
        due("joinVerses(1, 1)", x.joinVerses(1, 1), 2);
        dueMap(x, "1+2");
    }

    private static void splitVerse() {
        about = "5 splitVerse";
        VerseColumns x = books(2, 1);
        x.addChapter(0, 1, 50);
        x.setVerse(0, 1, 2000, 6);
        due("splitVerse(2, 0, 0)", x.splitVerse(2, 0, 0), UNKNOWN);
        due("splitVerse(0, 3, 0)", x.splitVerse(0, 3, 0), UNKNOWN);
        due("splitVerse(0, -1, 1)", x.splitVerse(0, -1, 1), UNKNOWN);
        due("splitVerse(0, 1, 0)", x.splitVerse(0, 1, 0), BAD_VALUE);
        due("splitVerse(0, 1, 2000)", x.splitVerse(0, 1, 2000), BAD_VALUE);
        due("splitVerse(0, 0, MAX)", x.splitVerse(0, 0, MAX), BAD_VALUE);
        due("splitVerse(0, 0, 100)", x.splitVerse(0, 0, 100), NOT_POSSIBLE);
        due("splitVerse(0, 0, 1999)", x.splitVerse(0, 0, 1999), NOT_POSSIBLE);
        due("count(11)", x.count(11), 4);
        due("splitVerse(0, 1, 1999)", x.splitVerse(0, 1, 1999), 4);
        due("verse(0, 1, 2)", x.verse(0, 1, 2), 1999);
        due("verse(0, 1, 3)", x.verse(0, 1, 3), 6);
        due("verse(0, 2, 2)", x.verse(0, 2, 2), 1);
        due("verse(0, 2, 3)", x.verse(0, 2, 3), 0);
        due("verse(0, 2, 0)", x.verse(0, 2, 0), 1);
        due("verse(0, 2, 1)", x.verse(0, 2, 1), 3);
        due("verse(0, 3, 0)", x.verse(0, 3, 0), 2);
        due("verse(0, 3, 1)", x.verse(0, 3, 1), 1);
        due("verse(0, 3, 2)", x.verse(0, 3, 2), 50);
        dueMap(x, "1+0 2+0 0+1 1+0");
        due("splitVerse(0, 2, 1)", x.splitVerse(0, 2, 1), NOT_POSSIBLE);
        due("splitVerse(1, 0, 1)", x.splitVerse(1, 0, 1), 2);
        dueMap(x, "1+0 2+0 0+2 1+0");
        due("verse(1, 1, 2)", x.verse(1, 1, 2), 99);
        VerseColumns y = books(60, 59);
        due("splitVerse(0, 0, 50)", y.splitVerse(0, 0, 50), FULL);
        due("splitVerse(0, 0, 100)", y.splitVerse(0, 0, 100), NOT_POSSIBLE);
        due("splitVerse(1, 58, 50)", y.splitVerse(1, 58, 50), 60);
        due("splitVerse(1, 58, 25)", y.splitVerse(1, 58, 25), FULL);
        due("group(118, 4)", y.group(118, 4), 2);
    }

    private static void link() {
        about = "6 link";
        VerseColumns x = books(2, 2);
        due("link(-1)", x.link(-1), UNKNOWN);
        due("link(4)", x.link(4), UNKNOWN);
        due("link(MAX)", x.link(MAX), UNKNOWN);
        due("link(MIN)", x.link(MIN), UNKNOWN);
        due("link(3)", x.link(3), NOT_POSSIBLE);
        due("count(11)", x.count(11), 2);
        due("link(1)", x.link(1), 3);
        dueMap(x, "1+0 1+1 0+1");
        due("link(1)", x.link(1), 2);
        dueMap(x, "1+0 1+2");
        due("link(1)", x.link(1), NOT_POSSIBLE);
        due("link(0)", x.link(0), 1);
        dueMap(x, "2+2");
        due("link(0)", x.link(0), NOT_POSSIBLE);
        due("count(11)", x.count(11), 5);
    }

    private static void part() {
        about = "7 part";
        VerseColumns x = books(3, 2);
        dueMapRead(x, "1<,2+2", "1+0 2+2");
        due("part(-1, 0, 0)", x.part(-1, 0, 0), UNKNOWN);
        due("part(2, -1, 0)", x.part(2, -1, 0), UNKNOWN);
        due("part(1, -1, 0)", x.part(1, -1, 0), BAD_VALUE);
        due("part(1, 61, 0)", x.part(1, 61, 0), BAD_VALUE);
        due("part(1, 0, -1)", x.part(1, 0, -1), BAD_VALUE);
        due("part(1, 0, 61)", x.part(1, 0, 61), BAD_VALUE);
        due("part(1, MIN, MAX)", x.part(1, MIN, MAX), BAD_VALUE);
        due("part(1, 60, 60)", x.part(1, 60, 60), NOT_POSSIBLE);
        due("part(1, 3, 1)", x.part(1, 3, 1), NOT_POSSIBLE);
        due("part(1, 1, 3)", x.part(1, 1, 3), NOT_POSSIBLE);
        due("part(1, 0, 0)", x.part(1, 0, 0), NOT_POSSIBLE);
        due("part(1, 2, 2)", x.part(1, 2, 2), NOT_POSSIBLE);
        due("part(0, 1, 0)", x.part(0, 1, 0), NOT_POSSIBLE);
        due("part(0, 0, 1)", x.part(0, 0, 1), NOT_POSSIBLE);
        due("count(11)", x.count(11), 3);
        due("part(1, 2, 0)", x.part(1, 2, 0), 3);
        dueMap(x, "1+0 2+0 0+2");
        due("part(1, 1, 0)", x.part(1, 1, 0), 4);
        dueMap(x, "1+0 1+0 1+0 0+2");
        due("part(3, 0, 1)", x.part(3, 0, 1), 5);
        dueMap(x, "1+0 1+0 1+0 0+1 0+1");
        due("undo()", x.undo(), 4);
        due("undo()", x.undo(), 3);
        due("undo()", x.undo(), 2);
        due("part(1, 0, 2)", x.part(1, 0, 2), 3);
        dueMap(x, "1+0 0+2 2+0");
        x.undo();
        due("part(1, 1, 2)", x.part(1, 1, 2), 3);
        dueMap(x, "1+0 1+2 1+0");
        VerseColumns y = books(60, 60);
        put(y, "60+60");
        due("readMap", y.readMap(), 1);
        due("part(0, 60, 60)", y.part(0, 60, 60), NOT_POSSIBLE);
        due("part(0, 60, 59)", y.part(0, 60, 59), 2);
        due("part(0, 60, 0)", y.part(0, 60, 0), 3);
    }

    private static void readMap() {
        about = "8 readMap";
        VerseColumns x = books(4, 3);
        dueMapRead(x, "3=,1<", "1+1 1+1 1+1 1+0");
        dueMapRead(x, "4<,3>", "1+0 1+0 1+0 1+0 0+1 0+1 0+1");
        dueMapRead(x, "4+3", "4+3");
        dueMapRead(x, "1+1,1=,2+1", "1+1 1+1 2+1");
        dueMapRead(x, "1>,2+1,1=,1<", "0+1 2+1 1+1 1+0");
        due("clearText()", x.clearText(), 12);
        due("count(11)", x.count(11), 5);
        VerseColumns y = books(12, 60);
        put(y, "10=,2+49,1>");
        due("readMap", y.readMap(), 12);
        due("group(10, 0)", y.group(10, 0), 3);
        due("group(10, 4)", y.group(10, 4), 49);
        due("count(11)", y.count(11), 3);
        VerseColumns z = books(60, 60);
        put(z, "60=");
        due("readMap", z.readMap(), 60);
        put(z, "60>,60<");
        due("readMap", z.readMap(), 120);
        due("group(59, 0)", z.group(59, 0), 2);
        due("group(60, 0)", z.group(60, 0), 1);
        due("count(8)", z.count(8), 0);
    }

    private static void readMapFaults() {
        about = "8 readMap faults";
        VerseColumns x = books(4, 3);
        dueMapFault(x, "", 0);
        dueMapFault(x, "x", 0);
        dueMapFault(x, ",", 0);
        dueMapFault(x, "=", 0);
        dueMapFault(x, "0=", 0);
        dueMapFault(x, "0", 0);
        dueMapFault(x, "01=", 0);
        dueMapFault(x, "3", 1);
        dueMapFault(x, "33", 2);
        dueMapFault(x, "333", 2);
        dueMapFault(x, "333=", 2);
        dueMapFault(x, "99", 2);
        dueMapFault(x, "99x", 2);
        dueMapFault(x, "99=", 0);
        dueMapFault(x, "61<", 0);
        dueMapFault(x, "3:", 1);
        dueMapFault(x, "3-", 1);
        dueMapFault(x, "3,", 1);
        dueMapFault(x, " 3=", 0);
        dueMapFault(x, "3 =", 1);
        dueMapFault(x, "3=", 2);
        dueMapFault(x, "3=,", 3);
        dueMapFault(x, "3=x", 2);
        dueMapFault(x, "3=1", 2);
        dueMapFault(x, "3==", 2);
        dueMapFault(x, "3=,,", 3);
        dueMapFault(x, "3=,0<", 3);
        dueMapFault(x, "3=,1<x", 5);
        dueMapFault(x, "3=,1<,", 6);
        dueMapFault(x, "3=,1<,x", 6);
        dueMapFault(x, "3=,1<,1", 7);
        dueMapFault(x, "3=,1<,1<", 6);
        dueMapFault(x, "3=,1<,1<x", 6);
        dueMapFault(x, "3=,1<,1>", 6);
        dueMapFault(x, "3=,1<,1x", 7);
        dueMapFault(x, "3=,1<,999", 8);
        dueMapFault(x, "" + (char) ('0' + 256) + "=", 0);
        dueMapFault(x, "3" + (char) ('=' + 256), 1);
        dueMapFault(x, "3=" + (char) 0 + "1<", 2);
        dueMapFault(x, "" + (char) 0x0663 + "=", 0);
    }

    private static void readMapFaultsOfRests() {
        about = "8 readMap faults of what is left";
        VerseColumns x = books(4, 3);
        dueMapFault(x, "5<", 0);
        dueMapFault(x, "4>", 0);
        dueMapFault(x, "4=", 0);
        dueMapFault(x, "5+1", 0);
        dueMapFault(x, "5+", 0);
        dueMapFault(x, "5+x", 0);
        dueMapFault(x, "4+", 2);
        dueMapFault(x, "4+x", 2);
        dueMapFault(x, "4+0", 2);
        dueMapFault(x, "4+03", 2);
        dueMapFault(x, "4+4", 2);
        dueMapFault(x, "4+4x", 2);
        dueMapFault(x, "4+4,", 2);
        dueMapFault(x, "4+3x", 3);
        dueMapFault(x, "4+3=", 3);
        dueMapFault(x, "4+3,", 4);
        dueMapFault(x, "4+33", 2);
        dueMapFault(x, "4+33x", 2);
        dueMapFault(x, "4+333", 4);
        dueMapFault(x, "4+99,", 2);
        dueMapFault(x, "1+1", 3);
        dueMapFault(x, "2=,2=", 3);
        dueMapFault(x, "2=,2>", 3);
        dueMapFault(x, "2=,3<", 3);
        dueMapFault(x, "2=,3+1", 3);
        dueMapFault(x, "2=,2+2", 5);
        dueMapFault(x, "2=,2+1,1+1", 7);
        dueMapFault(x, "4<", 2);
        dueMapFault(x, "3>", 2);
        due("count(11)", x.count(11), 2);
        dueMap(x, "1+0 1+0 1+0 1+0 0+1 0+1 0+1");
        VerseColumns y = books(4, 0);
        dueMapFault(y, "1=", 0);
        dueMapFault(y, "1+1", 2);
        dueMapFault(y, "1>", 0);
        dueMapRead(y, "4<", "1+0 1+0 1+0 1+0");
        VerseColumns z = books(0, 2);
        dueMapFault(z, "1<", 0);
        dueMapRead(z, "1>,1>", "0+1 0+1");
        VerseColumns none = books(0, 0);
        dueMapFault(none, "1<", 0);
        dueMapFault(none, "1>", 0);
        dueMapFault(none, "1", 1);
    }

    private static void pairAll() {
        about = "9 pairAll";
        VerseColumns x = books(4, 2);
        due("pairAll()", x.pairAll(), 4);
        dueMap(x, "1+1 1+1 1+0 1+0");
        due("count(11)", x.count(11), 3);
        x.addChapter(1, 4, 9);
        due("pairAll()", x.pairAll(), 6);
        dueMap(x, "1+1 1+1 1+1 1+1 0+1 0+1");
        x.link(0);
        x.link(0);
        due("pairAll()", x.pairAll(), 6);
        dueMap(x, "1+1 1+1 1+1 1+1 0+1 0+1");
        VerseColumns y = books(3, 3);
        due("pairAll()", y.pairAll(), 3);
        dueMap(y, "1+1 1+1 1+1");
        VerseColumns z = books(0, 2);
        due("pairAll()", z.pairAll(), 2);
        VerseColumns none = new VerseColumns();
        due("pairAll()", none.pairAll(), 0);
        due("count(11)", none.count(11), 1);
        due("undo()", none.undo(), 0);
    }

    private static void exchange() {
        about = "10 exchange";
        VerseColumns x = books(5, 4);
        x.setVerse(0, 1, 77, 3);
        x.setWidth(0, 20);
        dueMapRead(x, "1=,1<,1>,2+2,1<", "1+1 1+0 0+1 2+2 1+0");
        due("exchange()", x.exchange(), 2);
        dueMap(x, "1+1 0+1 1+0 2+2 0+1");
        due("count(2)", x.count(2), 4);
        due("count(3)", x.count(3), 5);
        due("verse(1, 1, 2)", x.verse(1, 1, 2), 77);
        due("verse(1, 1, 3)", x.verse(1, 1, 3), 3);
        due("verse(0, 0, 4)", x.verse(0, 0, 4), 5);
        due("verse(1, 0, 4)", x.verse(1, 0, 4), 3);
        due("group(1, 3)", x.group(1, 3), 1);
        due("setWidth(0, 30)", x.setWidth(0, 30), 20);
        due("count(11)", x.count(11), 5);
        due("splitVerse(1, 1, 7)", x.splitVerse(1, 1, 7), 6);
        due("exchange()", x.exchange(), 2);
        dueMap(x, "1+1 2+0 0+1 2+2 1+0");
        due("verse(0, 1, 2)", x.verse(0, 1, 2), 7);
        due("undo()", x.undo(), 4);
        due("undo()", x.undo(), 3);
        due("undo()", x.undo(), 2);
        dueMap(x, "1+1 1+0 0+1 2+2 1+0");
        due("verse(0, 1, 2)", x.verse(0, 1, 2), 77);
        due("setWidth(0, 30)", x.setWidth(0, 30), 30);
    }

    private static void undo() {
        about = "11 undo";
        VerseColumns x = new VerseColumns();
        due("undo()", x.undo(), NONE);
        List<List<Integer>> seen = new ArrayList<>();
        seen.add(all(x));
        for (int i = 0; i < 7; i++) {
            x.addChapter(i % 2, 1, 10 + i);
            due("count(11)", x.count(11), Math.min(i + 1, 5));
            if (i < 3) {
                seen.add(all(x));
            }
        }
        for (int left = 4; left >= 0; left--) {
            due("undo()", x.undo(), left);
            due("verses", x.count(2) + x.count(3), left + 2);
        }
        due("undo()", x.undo(), NONE);
        due("count(11)", x.count(11), 0);
        same("five undos", all(x), seen.get(2));
        x.addChapter(0, 1, 12);
        due("count(11)", x.count(11), 1);
        due("undo()", x.undo(), 0);
        same("one undo more", all(x), seen.get(2));
    }

    private static void undoAfterEachAct() {
        about = "11 undo after each act";
        VerseColumns x = books(3, 2);
        x.addChapter(0, 1, 70);
        x.setVerse(0, 1, 80, 2);
        x.pairAll();
        x.link(0);
        x.setWidth(0, 30);
        dueMap(x, "2+2 1+0 1+0");
        List<Integer> before = all(x);
        put(x, "1<,3+2");
        for (int act = 0; act < 9; act++) {
            due("act " + act + " is one", doAct(x, act) >= 0 ? 1 : 0, 1);
            due("undo() of act " + act, x.undo(), 4);
        }
        same("each act and its undo", all(x), before);
        due("the text stays", x.clearText(), 6);
    }

    private static int doAct(VerseColumns x, int act) {
        switch (act) {
            case 0:
                return x.addChapter(1, 5, 44);
            case 1:
                return x.setVerse(0, 0, 1, 9);
            case 2:
                return x.joinVerses(0, 1);
            case 3:
                return x.splitVerse(1, 1, 60);
            case 4:
                return x.link(1);
            case 5:
                return x.part(0, 1, 0);
            case 6:
                return x.readMap();
            case 7:
                return x.pairAll();
            default:
                return x.exchange();
        }
    }

    private static void noActs() {
        about = "11 calls that are no acts";
        VerseColumns x = books(2, 2);
        x.type('1');
        x.clearText();
        x.setWidth(1, 20);
        x.setHeights(30, 3);
        x.refer(0, 0);
        x.beside(0, 0, 0);
        x.page(0, 0);
        x.chapter(0, 1, 0);
        x.verse(0, 0, 0);
        x.group(0, 0);
        due("count(11)", x.count(11), 2);
        x.type('7');
        x.undo();
        due("count(11)", x.count(11), 1);
        due("clearText()", x.clearText(), 1);
        due("setWidth(1, 40)", x.setWidth(1, 40), 20);
        due("setHeights(40, 2)", x.setHeights(40, 2), 30);
    }

    private static void type() {
        about = "12 type";
        VerseColumns x = new VerseColumns();
        for (int length = 1; length <= 80; length++) {
            due("type", x.type((char) (length * 811)), length);
        }
        due("type('1')", x.type('1'), FULL);
        due("type(65535)", x.type((char) 65535), FULL);
        due("clearText()", x.clearText(), 80);
        due("type(0)", x.type((char) 0), 1);
        due("type(65535)", x.type((char) 65535), 2);
        due("count(11)", x.count(11), 0);
    }

    private static void clearText() {
        about = "13 clearText";
        VerseColumns x = books(1, 1);
        due("clearText()", x.clearText(), 0);
        put(x, "1:1");
        due("refer(0, 0)", x.refer(0, 0), 0);
        due("clearText()", x.clearText(), 3);
        due("clearText()", x.clearText(), 0);
        due("refer(0, 0)", x.refer(0, 0), -100);
        due("type('1')", x.type('1'), 1);
        due("refer(0, 0)", x.refer(0, 0), -101);
        due("count(11)", x.count(11), 2);
    }

    private static void refer() {
        about = "14 refer";
        VerseColumns x = library();
        dueReference(x, 0, "1:1", 0, 0);
        dueReference(x, 0, "1:3", 2, 2);
        dueReference(x, 0, "2:1", 3, 3);
        dueReference(x, 0, "2:12", 14, 14);
        dueReference(x, 0, "3:2", 16, 16);
        dueReference(x, 0, "1:1-3", 0, 2);
        dueReference(x, 0, "2:2-10", 4, 12);
        dueReference(x, 0, "2:10-12", 12, 14);
        dueReference(x, 0, "1:2-3:1", 1, 15);
        dueReference(x, 0, "2:3-2:11", 5, 13);
        dueReference(x, 0, "2:3-2:3", 5, 5);
        dueReference(x, 0, "2:3-3", 5, 5);
        dueReference(x, 1, "1:2-2:9", 1, 10);
        put(x, "1<,1>,1=,1>,2+1,1<,3=,9<,4>");
        due("readMap", x.readMap(), 22);
        // Left 1:3-2:3 is 2 to 5: groups of 2+1 (2, 3), 1+0 (4) and 1+1 (5).
        put(x, "1:3-2:3");
        dueProperties(x, 0, 2, 5, 3, 4, 3, 2, 1);
        put(x, "1:2-3");
        dueProperties(x, 0, 1, 2, 1, 3, 2, 2, 0);
        put(x, "1:1");
        dueProperties(x, 0, 0, 0, NONE, NONE, 1, 0, 1);
        put(x, "1:1-2");
        dueProperties(x, 0, 0, 1, 1, 1, 2, 1, 1);
        put(x, "2:1");
        dueProperties(x, 0, 3, 3, 3, 3, 1, 1, 0);
        put(x, "3:1-2");
        dueProperties(x, 0, 15, 16, NONE, NONE, 2, 0, 1);
        put(x, "2:6-3:2");
        dueProperties(x, 0, 8, 16, NONE, NONE, 9, 0, 1);
        put(x, "1:1-2:9");
        dueProperties(x, 1, 0, 10, 1, 7, 11, 6, 1);
        put(x, "2:1");
        dueProperties(x, 1, 2, 2, NONE, NONE, 1, 0, 1);
        put(x, "2:3");
        dueProperties(x, 1, 4, 4, 5, 5, 1, 1, 1);
        due("refer(2, 7)", x.refer(2, 7), UNKNOWN);
        due("refer(-1, 0)", x.refer(-1, 0), UNKNOWN);
        due("refer(0, -1)", x.refer(0, -1), BAD_VALUE);
        due("refer(0, 7)", x.refer(0, 7), BAD_VALUE);
        put(x, "x");
        due("refer(2, 0)", x.refer(2, 0), UNKNOWN);
        due("refer(0, 7)", x.refer(0, 7), BAD_VALUE);
        due("refer(0, 2)", x.refer(0, 2), -100);
    }

    private static void referNamesLastBeforeFirst() {
        about = "14 refer, the last before the first";
        VerseColumns x = library();
        dueReferenceFault(x, 0, "2:3-2", 4);
        dueReferenceFault(x, 0, "2:3-2:2", 6);
        dueReferenceFault(x, 0, "2:3-1:3", 4);
        dueReferenceFault(x, 0, "3:1-2:12", 4);
        dueReferenceFault(x, 0, "2:11-9", 5);
        dueReferenceFault(x, 0, "2:11-2:10", 7);
    }

    private static void referFaults() {
        about = "14 refer faults";
        VerseColumns x = library();
        dueReferenceFault(x, 0, "", 0);
        dueReferenceFault(x, 0, ":", 0);
        dueReferenceFault(x, 0, "0", 0);
        dueReferenceFault(x, 0, "01:1", 0);
        dueReferenceFault(x, 0, "1", 1);
        dueReferenceFault(x, 0, "4", 0);
        dueReferenceFault(x, 0, "4x", 0);
        dueReferenceFault(x, 0, "4:1", 0);
        dueReferenceFault(x, 0, "11", 0);
        dueReferenceFault(x, 0, "111", 2);
        dueReferenceFault(x, 0, "111:1", 2);
        dueReferenceFault(x, 0, "11:1", 0);
        dueReferenceFault(x, 0, "1x", 1);
        dueReferenceFault(x, 0, "1-2", 1);
        dueReferenceFault(x, 0, "1:", 2);
        dueReferenceFault(x, 0, "1::", 2);
        dueReferenceFault(x, 0, "1:0", 2);
        dueReferenceFault(x, 0, "1:01", 2);
        dueReferenceFault(x, 0, "1:4", 2);
        dueReferenceFault(x, 0, "1:4-", 2);
        dueReferenceFault(x, 0, "1:10", 2);
        dueReferenceFault(x, 0, "1:100", 4);
        dueReferenceFault(x, 0, "2:111", 4);
        dueReferenceFault(x, 0, "1:3x", 3);
        dueReferenceFault(x, 0, "1:3:", 3);
        dueReferenceFault(x, 0, "1:3-", 4);
        dueReferenceFault(x, 0, "1:1,", 3);
        dueReferenceFault(x, 0, " 1:1", 0);
        dueReferenceFault(x, 0, "1:1 ", 3);
        dueReferenceFault(x, 0, "" + (char) ('1' + 256) + ":1", 0);
        dueReferenceFault(x, 0, "1" + (char) (':' + 256) + "1", 1);
        VerseColumns y = books(0, 1);
        dueReferenceFault(y, 0, "1:1", 0);
        dueReference(y, 1, "1:1", 0, 0);
        VerseColumns z = new VerseColumns();
        for (int i = 0; i < 10; i++) {
            z.addChapter(0, 1 + i, 5);
        }
        dueReference(z, 0, "10:10", 54, 54);
        dueReference(z, 0, "9:9-10:1", 44, 45);
        dueReferenceFault(z, 0, "10:11", 3);
    }

    private static void referSecondNumber() {
        about = "14 refer, the number behind -";
        VerseColumns x = library();
        dueReferenceFault(x, 0, "1:2-0", 4);
        dueReferenceFault(x, 0, "1:2-x", 4);
        dueReferenceFault(x, 0, "1:2--", 4);
        dueReferenceFault(x, 0, "1:2-4", 4);
        dueReferenceFault(x, 0, "1:2-4x", 4);
        dueReferenceFault(x, 0, "1:2-4:", 4);
        dueReferenceFault(x, 0, "1:2-3x", 5);
        dueReferenceFault(x, 0, "1:2-3-", 5);
        dueReferenceFault(x, 0, "1:2-1x", 4);
        dueReferenceFault(x, 0, "1:2-1:", 6);
        dueReferenceFault(x, 0, "1:2-1:x", 6);
        dueReferenceFault(x, 0, "1:2-1:0", 6);
        dueReferenceFault(x, 0, "1:2-1:1", 6);
        dueReferenceFault(x, 0, "1:2-1:4", 6);
        dueReferenceFault(x, 0, "1:2-3:3", 6);
        dueReferenceFault(x, 0, "1:2-12", 4);
        dueReferenceFault(x, 0, "1:2-12:", 4);
        dueReferenceFault(x, 0, "1:2-123", 6);
        dueReferenceFault(x, 0, "2:2-1:3", 4);
        dueReferenceFault(x, 0, "2:2-12x", 6);
        dueReferenceFault(x, 0, "2:2-12:1", 4);
        dueReferenceFault(x, 0, "1:2-3:2x", 7);
        dueReferenceFault(x, 0, "1:2-3:2:", 7);
        dueReferenceFault(x, 0, "1:2-3:2-", 7);
        dueReferenceFault(x, 0, "1:2-2:13", 6);
        dueReferenceFault(x, 0, "1:2-2:13x", 6);
        dueReferenceFault(x, 0, "1:2-2:130", 8);
        dueReferenceFault(x, 0, "1:2-2:012", 6);
        dueReference(x, 0, "1:2-2:12", 1, 14);
    }

    private static void beside() {
        about = "15 beside";
        VerseColumns x = books(4, 4);
        dueMapRead(x, "1<,2+3,1>,1<", "1+0 2+3 0+1 1+0");
        due("beside(2, 0, 3)", x.beside(2, 0, 3), UNKNOWN);
        due("beside(-1, 0, 0)", x.beside(-1, 0, 0), UNKNOWN);
        due("beside(0, 4, 3)", x.beside(0, 4, 3), UNKNOWN);
        due("beside(0, -1, 0)", x.beside(0, -1, 0), UNKNOWN);
        due("beside(0, 0, 3)", x.beside(0, 0, 3), BAD_VALUE);
        due("beside(0, 0, -1)", x.beside(0, 0, -1), BAD_VALUE);
        due("beside(0, 0, 0)", x.beside(0, 0, 0), 0);
        due("beside(0, 0, 1)", x.beside(0, 0, 1), NONE);
        due("beside(0, 0, 2)", x.beside(0, 0, 2), NONE);
        due("beside(0, 1, 0)", x.beside(0, 1, 0), 1);
        due("beside(0, 2, 0)", x.beside(0, 2, 0), 1);
        due("beside(0, 2, 1)", x.beside(0, 2, 1), 0);
        due("beside(0, 2, 2)", x.beside(0, 2, 2), 2);
        due("beside(0, 3, 0)", x.beside(0, 3, 0), 3);
        due("beside(1, 0, 0)", x.beside(1, 0, 0), 1);
        due("beside(1, 2, 1)", x.beside(1, 2, 1), 1);
        due("beside(1, 2, 2)", x.beside(1, 2, 2), 2);
        due("beside(1, 3, 0)", x.beside(1, 3, 0), 2);
        due("beside(1, 3, 1)", x.beside(1, 3, 1), NONE);
    }

    private static void setWidth() {
        about = "16 setWidth";
        VerseColumns x = books(1, 1);
        due("setWidth(2, 0)", x.setWidth(2, 0), UNKNOWN);
        due("setWidth(-1, 40)", x.setWidth(-1, 40), UNKNOWN);
        due("setWidth(0, 9)", x.setWidth(0, 9), BAD_VALUE);
        due("setWidth(0, 201)", x.setWidth(0, 201), BAD_VALUE);
        due("setWidth(1, 0)", x.setWidth(1, 0), BAD_VALUE);
        due("setWidth(1, MIN)", x.setWidth(1, MIN), BAD_VALUE);
        due("verse(0, 0, 4)", x.verse(0, 0, 4), 3);
        due("setWidth(0, 10)", x.setWidth(0, 10), 40);
        due("verse(0, 0, 4)", x.verse(0, 0, 4), 10);
        due("verse(1, 0, 4)", x.verse(1, 0, 4), 3);
        due("setWidth(1, 200)", x.setWidth(1, 200), 40);
        due("verse(1, 0, 4)", x.verse(1, 0, 4), 1);
        due("setWidth(0, 50)", x.setWidth(0, 50), 10);
        due("verse(0, 0, 4)", x.verse(0, 0, 4), 2);
        due("setWidth(0, 51)", x.setWidth(0, 51), 50);
        due("verse(0, 0, 4)", x.verse(0, 0, 4), 2);
        due("setWidth(0, 49)", x.setWidth(0, 49), 51);
        due("verse(0, 0, 4)", x.verse(0, 0, 4), 3);
        due("count(11)", x.count(11), 2);
    }

    private static void setHeights() {
        about = "17 setHeights";
        VerseColumns x = books(2, 1);
        due("setHeights(4, 0)", x.setHeights(4, 0), BAD_VALUE);
        due("setHeights(201, 0)", x.setHeights(201, 0), BAD_VALUE);
        due("setHeights(5, -1)", x.setHeights(5, -1), BAD_VALUE);
        due("setHeights(5, 6)", x.setHeights(5, 6), BAD_VALUE);
        due("group(0, 5)", x.group(0, 5), 5);
        due("group(1, 5)", x.group(1, 5), 3);
        due("setHeights(5, 5)", x.setHeights(5, 5), 40);
        due("group(0, 5)", x.group(0, 5), 8);
        due("group(1, 5)", x.group(1, 5), 3);
        due("count(9)", x.count(9), 3);
        due("setHeights(200, 0)", x.setHeights(200, 0), 5);
        due("group(0, 5)", x.group(0, 5), 3);
        due("count(9)", x.count(9), 1);
        due("setHeights(5, 0)", x.setHeights(5, 0), 200);
        due("count(11)", x.count(11), 2);
    }

    private static void page() {
        about = "18 page";
        VerseColumns x = new VerseColumns();
        due("page(-1, 9)", x.page(-1, 9), BAD_VALUE);
        due("page(MIN, 0)", x.page(MIN, 0), BAD_VALUE);
        due("page(0, -1)", x.page(0, -1), BAD_VALUE);
        due("page(0, 5)", x.page(0, 5), BAD_VALUE);
        due("page(MAX, 5)", x.page(MAX, 5), BAD_VALUE);
        due("page(0, 4)", x.page(0, 4), NONE);
        x.addChapter(0, 4, 160);
        x.setHeights(10, 2);
        // Heights of 6, 4, 4, 4 on pages of 10.
        due("count(9)", x.count(9), 2);
        duePage(x, 0, 0, 1, 10, 0, 0);
        duePage(x, 1, 2, 3, 8, 0, 0);
        due("page(2, 0)", x.page(2, 0), NONE);
        due("page(MAX, 0)", x.page(MAX, 0), NONE);
        due("page(2, 5)", x.page(2, 5), BAD_VALUE);
        x.setHeights(9, 2);
        duePage(x, 0, 0, 0, 6, 0, 0);
        duePage(x, 1, 1, 2, 8, 0, 0);
        duePage(x, 2, 3, 3, 4, 0, 0);
        x.setHeights(5, 2);
        duePage(x, 0, 0, 0, 6, 0, 1);
        duePage(x, 3, 3, 3, 4, 0, 0);
        due("page(4, 0)", x.page(4, 0), NONE);
    }

    private static void pageNotes() {
        about = "18 page, notes";
        VerseColumns x = books(3, 3);
        x.setHeights(12, 0);
        x.pairAll();
        // Heights of 3, 3, 3: 9 lines, and 3 lines are free.
        duePage(x, 0, 0, 2, 9, 0, 0);
        x.setVerse(0, 1, 100, 1);
        x.setVerse(1, 2, 100, 1);
        duePage(x, 0, 0, 2, 9, 3, 0);
        x.setVerse(1, 1, 100, 1);
        duePage(x, 0, 0, 1, 6, 3, 0);
        duePage(x, 1, 2, 2, 3, 2, 0);
        due("group(1, 8)", x.group(1, 8), 2);
        due("group(0, 8)", x.group(0, 8), 0);
        x.setVerse(0, 0, 100, 10);
        duePage(x, 0, 0, 0, 3, 11, 1);
        duePage(x, 1, 1, 2, 6, 4, 0);
        x.setVerse(0, 0, 100, 8);
        duePage(x, 0, 0, 0, 3, 9, 0);
        x.setVerse(0, 0, 100, 9);
        duePage(x, 0, 0, 0, 3, 10, 1);
    }

    private static void pageBreaks() {
        about = "18 page, headings and lines";
        VerseColumns x = books(2, 2);
        x.addChapter(1, 1, 41);
        x.setVerse(0, 0, 400, 0);
        // 1+0 (10 + 2), 1+0 (3), 0+1 (3 + 2), 0+1 (3), 0+1 (2 + 2).
        due("count(4)", x.count(4), 5);
        dueLines(x, 12, 0, 0, 0);
        due("group(2, 5)", x.group(2, 5), 5);
        due("group(4, 5)", x.group(4, 5), 4);
        due("group(4, 7)", x.group(4, 7), 23);
        due("count(10)", x.count(10), 27);
        x.setHeights(15, 2);
        due("group(1, 6)", x.group(1, 6), 0);
        due("group(1, 7)", x.group(1, 7), 12);
        due("group(2, 6)", x.group(2, 6), 1);
        due("group(2, 7)", x.group(2, 7), 0);
        due("group(4, 7)", x.group(4, 7), 8);
        x.pairAll();
        // 1+1 (12 beside 5), 1+1 (3 beside 3), 0+1 (4).
        due("count(10)", x.count(10), 11);
        due("group(1, 5)", x.group(1, 5), 3);
        x.link(1);
        // 1+2 (3 beside 3 + 4).
        due("group(1, 5)", x.group(1, 5), 7);
        due("count(10)", x.count(10), 11);
        x.setHeights(19, 0);
        due("group(1, 5)", x.group(1, 5), 5);
        due("count(9)", x.count(9), 1);
    }

    private static void dueLines(VerseColumns x, int height, int page, int line, int notes) {
        due("group(0, 5)", x.group(0, 5), height);
        due("group(0, 6)", x.group(0, 6), page);
        due("group(0, 7)", x.group(0, 7), line);
        due("group(0, 8)", x.group(0, 8), notes);
    }

    private static void chapter() {
        about = "19 chapter";
        VerseColumns x = library();
        due("chapter(2, 1, 3)", x.chapter(2, 1, 3), UNKNOWN);
        due("chapter(-1, 1, 0)", x.chapter(-1, 1, 0), UNKNOWN);
        due("chapter(0, 0, 3)", x.chapter(0, 0, 3), UNKNOWN);
        due("chapter(0, 4, 0)", x.chapter(0, 4, 0), UNKNOWN);
        due("chapter(1, 3, 0)", x.chapter(1, 3, 0), UNKNOWN);
        due("chapter(0, MIN, 0)", x.chapter(0, MIN, 0), UNKNOWN);
        due("chapter(0, MAX, 0)", x.chapter(0, MAX, 0), UNKNOWN);
        due("chapter(0, 1, 3)", x.chapter(0, 1, 3), BAD_VALUE);
        due("chapter(0, 1, -1)", x.chapter(0, 1, -1), BAD_VALUE);
        due("chapter(0, 1, 0)", x.chapter(0, 1, 0), 0);
        due("chapter(0, 2, 0)", x.chapter(0, 2, 0), 3);
        due("chapter(0, 3, 0)", x.chapter(0, 3, 0), 15);
        due("chapter(0, 2, 1)", x.chapter(0, 2, 1), 12);
        due("chapter(0, 2, 2)", x.chapter(0, 2, 2), 1200);
        x.setVerse(0, 3, 2000, 0);
        x.joinVerses(0, 0);
        due("chapter(0, 2, 0)", x.chapter(0, 2, 0), 2);
        due("chapter(0, 2, 2)", x.chapter(0, 2, 2), 3100);
        x.splitVerse(0, 2, 1000);
        due("chapter(0, 2, 1)", x.chapter(0, 2, 1), 13);
        due("chapter(0, 3, 0)", x.chapter(0, 3, 0), 15);
        due("chapter(1, 2, 0)", x.chapter(1, 2, 0), 2);
    }

    private static void verse() {
        about = "20 verse";
        VerseColumns x = library();
        due("verse(2, 0, 5)", x.verse(2, 0, 5), UNKNOWN);
        due("verse(-1, 0, 0)", x.verse(-1, 0, 0), UNKNOWN);
        due("verse(0, 17, 5)", x.verse(0, 17, 5), UNKNOWN);
        due("verse(0, -1, 0)", x.verse(0, -1, 0), UNKNOWN);
        due("verse(0, 0, 5)", x.verse(0, 0, 5), BAD_VALUE);
        due("verse(0, 0, -1)", x.verse(0, 0, -1), BAD_VALUE);
        x.setVerse(0, 14, 81, 7);
        due("verse(0, 14, 0)", x.verse(0, 14, 0), 2);
        due("verse(0, 14, 1)", x.verse(0, 14, 1), 12);
        due("verse(0, 14, 2)", x.verse(0, 14, 2), 81);
        due("verse(0, 14, 3)", x.verse(0, 14, 3), 7);
        due("verse(0, 14, 4)", x.verse(0, 14, 4), 3);
        due("verse(0, 15, 0)", x.verse(0, 15, 0), 3);
        due("verse(0, 15, 1)", x.verse(0, 15, 1), 1);
        due("verse(0, 15, 4)", x.verse(0, 15, 4), 3);
        due("verse(0, 0, 1)", x.verse(0, 0, 1), 1);
        x.setVerse(1, 0, 1, 0);
        due("verse(1, 0, 4)", x.verse(1, 0, 4), 1);
        x.setVerse(1, 0, 80, 0);
        due("verse(1, 0, 4)", x.verse(1, 0, 4), 2);
    }

    private static void group() {
        about = "21 group";
        VerseColumns x = books(6, 6);
        dueMapRead(x, "1=,1<,1>,2+1,1+2,1=", "1+1 1+0 0+1 2+1 1+2 1+1");
        due("group(-1, 9)", x.group(-1, 9), UNKNOWN);
        due("group(6, 9)", x.group(6, 9), UNKNOWN);
        due("group(MAX, 0)", x.group(MAX, 0), UNKNOWN);
        due("group(0, 9)", x.group(0, 9), BAD_VALUE);
        due("group(0, -1)", x.group(0, -1), BAD_VALUE);
        dueGroup(x, 0, 0, 0, 1, 0, 1, 5, 0, 0, 0);
        dueGroup(x, 1, 1, 1, 1, NONE, 0, 3, 0, 5, 0);
        dueGroup(x, 2, 2, NONE, 0, 1, 1, 3, 0, 8, 0);
        dueGroup(x, 3, 3, 2, 2, 2, 1, 6, 0, 11, 0);
        dueGroup(x, 4, 3, 4, 1, 3, 2, 6, 0, 17, 0);
        dueGroup(x, 5, 0, 5, 1, 5, 1, 3, 0, 23, 0);
        VerseColumns y = books(4, 4);
        dueMapRead(y, "2+2,2<,2>", "2+2 1+0 1+0 0+1 0+1");
        y.link(1);
        y.link(2);
        dueGroup(y, 0, 3, 0, 2, 0, 2, 8, 0, 0, 0);
        dueGroup(y, 1, 1, 2, 2, NONE, 0, 6, 0, 8, 0);
        dueGroup(y, 2, 2, NONE, 0, 2, 2, 6, 0, 14, 0);
    }

    private static void count() {
        about = "22 count";
        VerseColumns x = library();
        due("count(-1)", x.count(-1), BAD_VALUE);
        due("count(12)", x.count(12), BAD_VALUE);
        due("count(MIN)", x.count(MIN), BAD_VALUE);
        due("count(MAX)", x.count(MAX), BAD_VALUE);
        put(x, "2=,3<,4>,2+1,1+2,2+2,7<");
        due("readMap", x.readMap(), 19);
        int[] want = {3, 2, 17, 11, 19, 2, 10, 4, 3};
        for (int what = 0; what < want.length; what++) {
            due("count(" + what + ")", x.count(what), want[what]);
        }
        x.setHeights(200, 2);
        due("count(9)", x.count(9), 1);
        due("count(11)", x.count(11), 5);
        // In the left column alone 3 + 2, 3, 3 and (7 of 3, and 2); in the right one 3 + 2, 3, 3, 3;
        // beside each other 3 - 3, 3 - 3, 6 - 3, 6 - 3, 6 - 6.
        due("count(10)", x.count(10), 11 + 23 + 14 + 3 + 3);
        x.setHeights(200, 0);
        due("count(10)", x.count(10), 9 + 21 + 12 + 3 + 3);
    }

    private static void errorsChangeNothing() {
        about = "errors change nothing";
        VerseColumns x = books(2, 2);
        x.setWidth(0, 50);
        x.setHeights(20, 3);
        put(x, "1=");
        List<Integer> before = all(x);
        int[] answers = {
            x.addChapter(2, 1, 1), x.addChapter(0, 0, 1), x.addChapter(0, 1, 0), x.addChapter(0, 59, 1),
            x.setVerse(0, 2, 1, 1), x.setVerse(0, 0, 0, 1), x.setVerse(0, 0, 1, 11),
            x.joinVerses(0, 2), x.joinVerses(0, 1), x.splitVerse(0, 2, 1), x.splitVerse(0, 0, 0),
            x.splitVerse(0, 0, 100), x.link(4), x.link(3), x.part(4, 0, 1), x.part(0, 0, 61), x.part(0, 1, 0),
            x.readMap(), x.refer(0, 7), x.refer(0, 0), x.beside(0, 0, 3), x.beside(0, 0, 1), x.setWidth(2, 10),
            x.setWidth(0, 9), x.setHeights(4, 0), x.setHeights(10, 6), x.page(-1, 0), x.page(9, 0),
            x.chapter(0, 3, 0), x.verse(0, 0, 5), x.group(0, 3), x.count(12)};
        for (int i = 0; i < answers.length; i++) {
            due("answer " + i + " is below 0", answers[i] < 0 ? 1 : 0, 1);
        }
        same("errors", all(x), before);
        due("count(11)", x.count(11), 2);
        due("clearText()", x.clearText(), 2);
        due("setWidth(0, 10)", x.setWidth(0, 10), 50);
        due("setHeights(5, 0)", x.setHeights(5, 0), 20);
        VerseColumns y = new VerseColumns();
        due("undo()", y.undo(), NONE);
        due("count(11)", y.count(11), 0);
        y.addChapter(0, 60, 2);
        y.undo();
        y.undo();
        due("count(11)", y.count(11), 0);
        VerseColumns full = books(60, 60);
        due("splitVerse(0, 0, 1)", full.splitVerse(0, 0, 1), FULL);
        due("addChapter(0, 1, 1)", full.addChapter(0, 1, 1), FULL);
        due("count(11)", full.count(11), 2);
        due("count(4)", full.count(4), 120);
    }
}
