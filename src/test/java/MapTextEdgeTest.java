/** Promise 8 and what the terms say of the map text: each sentence that names a boundary case, at and beside it. */
public final class MapTextEdgeTest extends Checks {
    public static void main(String[] args) {
        items();
        itemsOfAWholeText();
        numbersOfOneOrTwoDigits();
        noZerosInFront();
        thirdDigits();
        signs();
        signsBesideDigits();
        equalSigns();
        leftSigns();
        rightSigns();
        plusSigns();
        moreThanABook();
        aboveSixty();
        lookedAtBehindTheSign();
        lookedAtWhenItEnds();
        commasBehindEachItem();
        commasOnly();
        endsTooEarly();
        allVersesUsed();
        noVerses();
        firstFault();
        groupsThen();
        textStays();
        faultsChangeNothing();
        finish();
    }

    /** The text has this fault as a map of books of so many verses, and nothing is changed by it. */
    private static void fault(int left, int right, String text, int fault) {
        refused("readMap of \"" + text + "\"", () -> put(books(left, right), text), VerseColumns::readMap, -100 - fault);
    }

    private static void read(int left, int right, String text, String want) {
        dueMapRead(books(left, right), text, want);
    }

    private static void items() {
        sentence("one or more items with \",\" between each two");
        fault(2, 2, "", 0);
        read(2, 2, "2=", "1+1 1+1");
        read(2, 2, "1=,1=", "1+1 1+1");
        read(2, 2, "1=,1<,1>", "1+1 1+0 0+1");
        fault(2, 2, "1=1=", 2);
        fault(2, 2, "1= 1=", 2);
        fault(2, 2, "1=;1=", 2);
        fault(2, 2, "1=.1=", 2);
        fault(2, 2, "1=+1=", 2);
        fault(2, 2, "1=-1=", 2);
        fault(2, 2, "1=,,1=", 3);
        fault(2, 2, ",2=", 0);
        fault(2, 2, " 2=", 0);
        fault(2, 2, "2= ", 2);
    }

    /** 19 items "1+1," and one of 4 signs: 80 signs. */
    private static String wholeText() {
        return "1+1,".repeat(19) + "1+41";
    }

    private static void itemsOfAWholeText() {
        sentence("There is a text of at most 80 characters");
        VerseColumns x = put(books(20, 60), wholeText());
        due("readMap of 80 characters", x.readMap(), 20);
        dueGroup(x, 18, 0, 18, 1, 18, 1);
        dueGroup(x, 19, 3, 19, 1, 19, 41);
        fault(20, 59, wholeText(), 78);
        fault(21, 60, wholeText(), 80);
        fault(20, 60, wholeText().substring(0, 79), 79);
        refused("an 81st character", () -> put(books(20, 60), wholeText()), y -> y.type('9'), FULL);
        VerseColumns most = put(books(27, 27), "1<,".repeat(26) + "1<");
        due("readMap of left verses alone", most.readMap(), -180);
        VerseColumns all = put(books(27, 0), "1<,".repeat(26) + "1<");
        due("readMap of 80 characters", all.readMap(), 27);
    }

    private static void numbersOfOneOrTwoDigits() {
        sentence("each a number n from 1 to 60 with 1 or 2 digits (without zeros in front) and a sign");
        for (int n : new int[] {1, 2, 9, 10, 11, 19, 20, 59, 60}) {
            due("readMap of " + n + "=", put(books(n, n), n + "=").readMap(), n);
            due("readMap of " + n + "<", put(books(n, 0), n + "<").readMap(), n);
            due("readMap of " + n + ">", put(books(0, n), n + ">").readMap(), n);
            due("readMap of " + n + "+1", put(books(n, 1), n + "+1").readMap(), 1);
            due("readMap of 1+" + n, put(books(1, n), "1+" + n).readMap(), 1);
        }
        for (String sign : new String[] {"=", "<", ">", "+1"}) {
            fault(60, 60, "0" + sign, 0);
            fault(60, 60, "61" + sign, 0);
            fault(60, 60, "99" + sign, 0);
            fault(60, 60, sign, 0);
        }
        fault(60, 60, "1+0", 2);
        fault(60, 60, "1+61", 2);
        fault(60, 60, "1+99", 2);
    }

    private static void noZerosInFront() {
        sentence("(without zeros in front)");
        fault(9, 9, "09=", 0);
        fault(9, 9, "00=", 0);
        fault(9, 9, "009=", 0);
        fault(9, 9, "9+09", 2);
        fault(9, 9, "9+00", 2);
        fault(9, 9, "8=,01=", 3);
        fault(9, 9, "8=,1+01", 5);
        fault(9, 9, "0", 0);
        fault(9, 9, "9+0", 2);
        read(10, 10, "10+10", "10+10");
        due("readMap of 20=", put(books(20, 20), "20=").readMap(), 20);
    }

    private static void thirdDigits() {
        sentence("the index, from 0, of the first character that is not allowed at its place (a 3rd digit of a number, too)");
        fault(60, 60, "100=", 2);
        fault(60, 60, "100", 2);
        fault(60, 60, "111<", 2);
        fault(60, 60, "600>", 2);
        fault(60, 60, "999+1", 2);
        fault(60, 60, "1234", 2);
        fault(60, 60, "1+100", 4);
        fault(60, 60, "1+600,", 4);
        fault(60, 60, "1+1234", 4);
        fault(60, 60, "59=,100=", 6);
        fault(60, 60, "59=,1+100", 8);
        fault(60, 60, "59=,1+1,100", 10);
    }

    private static void signs() {
        sentence("and a sign, and for the last kind a second number m behind it");
        // The neighbours of the signs among all characters, and what stands in references.
        for (char sign : new char[] {'*', ',', '-', '.', ';', '?', ':', '@', ' ', 'x', 0, 127, (char) ('=' + 128),
            (char) ('=' + 256), (char) ('<' + 256), (char) ('>' + 256), (char) ('+' + 256), (char) 65535}) {
            fault(3, 3, "3" + sign, 1);
            fault(3, 3, "12" + sign, 2);
        }
        fault(3, 3, "3==", 2);
        fault(3, 3, "3=<", 2);
        fault(3, 3, "3=3", 2);
        fault(3, 3, "3<>", 2);
        fault(3, 3, "3++", 2);
        fault(3, 3, "3+=", 2);
        fault(3, 3, "3+,", 2);
        fault(3, 3, "3+3+", 3);
        fault(3, 3, "3+3=", 3);
    }

    private static void signsBesideDigits() {
        sentence("each a number n from 1 to 60 with 1 or 2 digits");
        for (char sign : new char[] {'/', ':', 'a', ' ', '-', 0, 1, 9, (char) ('1' + 128), (char) ('1' + 256),
            (char) ('1' + 512), (char) 0x0661, (char) 0xFF11, (char) 65535}) {
            fault(3, 3, sign + "=", 0);
            fault(3, 3, "1" + sign + "=", 1);
            fault(3, 3, "12" + sign + "=", 2);
            fault(3, 3, "1+" + sign, 2);
            fault(3, 3, "1+1" + sign, 3);
            fault(3, 3, "1=," + sign, 3);
        }
    }

    private static void equalSigns() {
        sentence("n \"=\" for n groups of one verse of each book");
        read(1, 1, "1=", "1+1");
        read(3, 2, "2=,1<", "1+1 1+1 1+0");
        fault(3, 2, "3=", 0);
        fault(2, 3, "3=", 0);
        fault(2, 2, "3=", 0);
        fault(3, 0, "1=", 0);
        fault(0, 3, "1=", 0);
        due("readMap of 60=", put(books(60, 60), "60=").readMap(), 60);
        fault(60, 59, "60=", 0);
        fault(59, 60, "60=", 0);
    }

    private static void leftSigns() {
        sentence("n \"<\" for n groups of one verse of the left book");
        read(1, 0, "1<", "1+0");
        read(2, 1, "2<,1>", "1+0 1+0 0+1");
        fault(2, 9, "3<", 0);
        fault(0, 9, "1<", 0);
        due("readMap of 60<", put(books(60, 0), "60<").readMap(), 60);
        fault(59, 60, "60<", 0);
        fault(60, 60, "60<,1<", 4);
    }

    private static void rightSigns() {
        sentence("n \">\" for n groups of one verse of the right book");
        read(0, 1, "1>", "0+1");
        read(1, 2, "2>,1<", "0+1 0+1 1+0");
        fault(9, 2, "3>", 0);
        fault(9, 0, "1>", 0);
        due("readMap of 60>", put(books(0, 60), "60>").readMap(), 60);
        fault(60, 59, "60>", 0);
        fault(60, 60, "60>,1>", 4);
    }

    private static void plusSigns() {
        sentence("n \"+\" m for one group of n verses of the left and m of the right book");
        read(1, 1, "1+1", "1+1");
        read(3, 2, "3+2", "3+2");
        read(60, 60, "60+60", "60+60");
        read(60, 1, "60+1", "60+1");
        read(1, 60, "1+60", "1+60");
        fault(2, 9, "3+1", 0);
        fault(9, 2, "1+3", 2);
        fault(9, 0, "1+1", 2);
        fault(0, 9, "1+1", 0);
        fault(59, 60, "60+60", 0);
        fault(60, 59, "60+60", 3);
    }

    private static void moreThanABook() {
        sentence("a number with which there would be more verses than a book has (also one above 60) is a fault at its first digit");
        read(5, 5, "2=,3=", "1+1 1+1 1+1 1+1 1+1");
        fault(5, 5, "2=,4=", 3);
        fault(5, 5, "2=,4<", 3);
        fault(5, 5, "2=,4>", 3);
        fault(5, 5, "2=,4+1", 3);
        fault(5, 5, "2=,3+4", 5);
        fault(5, 5, "2<,4=", 3);
        fault(5, 5, "2>,4=", 3);
        read(5, 5, "2>,3=,2<", "0+1 0+1 1+1 1+1 1+1 1+0 1+0");
        fault(5, 5, "2+2,4<", 4);
        fault(5, 5, "2+2,4>", 4);
        fault(5, 5, "2+2,12<", 4);
        fault(5, 5, "2+2,3+12", 6);
        fault(5, 5, "2+1,4+4", 4);
        fault(5, 5, "3+1,1+1,1+3,1<", 12);
        read(5, 5, "3+1,1+1,1+3", "3+1 1+1 1+3");
    }

    private static void aboveSixty() {
        sentence("(also one above 60)");
        for (String sign : new String[] {"=", "<", ">", "+60"}) {
            fault(60, 60, "61" + sign, 0);
            fault(60, 60, "99" + sign, 0);
        }
        fault(60, 60, "60+61", 3);
        fault(60, 60, "60+99", 3);
        fault(60, 60, "60+61,", 3);
    }

    private static void lookedAtBehindTheSign() {
        sentence("n is looked at when its sign has been read");
        fault(3, 3, "4", 1);
        fault(3, 3, "4=", 0);
        fault(3, 3, "61", 2);
        fault(3, 3, "61x", 2);
        fault(3, 3, "61,", 2);
        fault(3, 3, "61:", 2);
        fault(3, 3, "61=", 0);
        fault(3, 3, "4x", 1);
        fault(3, 3, "4+", 0);
        fault(3, 3, "4+x", 0);
        fault(3, 3, "4+0", 0);
        fault(3, 3, "4+100", 0);
        fault(3, 3, "3+", 2);
        fault(3, 3, "3+x", 2);
        fault(3, 3, "3=,1", 4);
        fault(3, 3, "3=,1x", 4);
        fault(3, 3, "3=,1<", 3);
        fault(3, 3, "3=,99", 5);
        fault(3, 3, "3=,999", 5);
    }

    private static void lookedAtWhenItEnds() {
        sentence("m when it ends");
        fault(3, 3, "1+4", 2);
        fault(3, 3, "1+4,", 2);
        fault(3, 3, "1+4x", 2);
        fault(3, 3, "1+4=", 2);
        fault(3, 3, "1+44", 2);
        fault(3, 3, "1+44x", 2);
        fault(3, 3, "1+444", 4);
        fault(3, 3, "1+3x", 3);
        fault(3, 3, "1+3,x", 4);
        fault(3, 3, "1+3,3<", 4);
        read(3, 3, "1+3,2<", "1+3 1+0 1+0");
    }

    private static void commasBehindEachItem() {
        sentence("a \",\" can stand behind each item, also if all verses are used up");
        fault(2, 2, "1=,", 3);
        fault(2, 2, "2=,", 3);
        fault(2, 2, "2<,2>,", 6);
        fault(2, 2, "2<,", 3);
        fault(2, 2, "2>,", 3);
        fault(2, 2, "2+2,", 4);
        fault(2, 2, "2=,1", 4);
        fault(2, 2, "2=,1=", 3);
        fault(2, 2, "2=,1<", 3);
        fault(2, 2, "2=,1>", 3);
        fault(2, 2, "2=,1+", 3);
        fault(2, 2, "2=,0", 3);
        fault(2, 2, "2=,,", 3);
        fault(2, 2, "2=,x", 3);
        fault(2, 2, "2=x", 2);
        fault(2, 2, "2+2x", 3);
    }

    private static void commasOnly() {
        sentence("with \",\" between each two");
        fault(2, 2, ",", 0);
        fault(2, 2, ",,", 0);
        fault(2, 2, "1,1", 1);
        fault(2, 2, "1+,1", 2);
        fault(2, 2, "1=" + (char) (',' + 256) + "1=", 2);
        fault(2, 2, "1=+", 2);
        fault(2, 2, "1=-", 2);
    }

    private static void endsTooEarly() {
        sentence("or its length if it ends too early");
        fault(3, 3, "", 0);
        fault(3, 3, "1", 1);
        fault(3, 3, "12", 2);
        fault(3, 3, "1+", 2);
        fault(3, 3, "1=,", 3);
        fault(3, 3, "1=,1", 4);
        fault(3, 3, "1=,1+", 5);
        fault(3, 3, "3=,", 3);
    }

    private static void allVersesUsed() {
        sentence("a text that ends behind an item before all verses are used up ends too early");
        fault(3, 3, "2=", 2);
        fault(3, 2, "2=", 2);
        fault(2, 3, "2=", 2);
        fault(3, 3, "3<", 2);
        fault(3, 3, "3>", 2);
        fault(3, 3, "3<,2>", 5);
        fault(3, 3, "2<,3>", 5);
        fault(3, 3, "3+2", 3);
        fault(3, 3, "2+3", 3);
        fault(1, 0, "", 0);
        fault(60, 60, "59=", 3);
        fault(60, 60, "60+59", 5);
        fault(60, 60, "59+60", 5);
        read(3, 3, "2=,1<,1>", "1+1 1+1 1+0 0+1");
    }

    private static void noVerses() {
        sentence("The text can also be read as a map: one or more items");
        fault(0, 0, "", 0);
        fault(0, 0, "1", 1);
        fault(0, 0, "1=", 0);
        fault(0, 0, "1<", 0);
        fault(0, 0, "1>", 0);
        fault(0, 0, "1+1", 0);
        fault(0, 0, "0=", 0);
        fault(0, 0, ",", 0);
    }

    private static void firstFault() {
        sentence("The fault of a map is found like that of a reference");
        fault(3, 3, "1=,x,9=", 3);
        fault(3, 3, "9=,x", 0);
        fault(3, 3, "1=,9<,x", 3);
        fault(3, 3, "1=x9=", 2);
        fault(3, 3, "1+9,9=", 2);
        fault(3, 3, "9+9", 0);
        fault(3, 3, "1:1", 1);
        fault(3, 3, "1:1-2", 1);
    }

    private static void groupsThen() {
        sentence("Returns the number of groups then; -100 minus the fault of the text if it has one.");
        due("1 group", put(books(60, 60), "60+60").readMap(), 1);
        due("2 groups", put(books(60, 60), "1+59,59+1").readMap(), 2);
        due("119 groups", put(books(60, 60), "59<,59>,1=").readMap(), 119);
        due("120 groups", put(books(60, 60), "60<,60>").readMap(), 120);
        due("120 groups, the other way", put(books(60, 60), "60>,60<").readMap(), 120);
        due("fault 0", put(books(60, 60), "").readMap(), -100);
        due("fault 79", put(books(60, 60), "1<,".repeat(26) + "1x").readMap(), -179);
        due("fault 80", put(books(60, 60), "1<,".repeat(26) + "1<").readMap(), -180);
    }

    private static void textStays() {
        sentence("Makes the map that of the text, which stays.");
        VerseColumns x = put(books(2, 2), "2=");
        due("readMap()", x.readMap(), 2);
        due("readMap() again", x.readMap(), 2);
        due("states", x.count(11), 4);
        due("type(',')", x.type(','), 3);
        due("readMap() with a fault", x.readMap(), -103);
        due("readMap() with a fault again", x.readMap(), -103);
        due("states", x.count(11), 4);
        x.undo();
        due("clearText()", x.clearText(), 3);
        due("readMap() of no text", x.readMap(), -100);
    }

    private static void faultsChangeNothing() {
        sentence("A call that reports an error or NONE changes nothing.");
        dueUnchanged("", 0);
        dueUnchanged("1", 1);
        dueUnchanged("2<,2>,2<,1", 10);
        dueUnchanged("2<,2>,3<", 6);
        dueUnchanged("4<,2>,", 6);
        dueUnchanged("4<,1>", 5);
        dueUnchanged("4+1,1>,1>", 7);
        dueUnchanged("1=,1=,3<", 6);
    }

    /** Both objects have 4 left and 2 right verses; the one has a full history, the other one has not. */
    private static void dueUnchanged(String text, int fault) {
        refused("readMap of \"" + text + "\"", () -> put(small(), text), VerseColumns::readMap, -100 - fault);
        refused("readMap of \"" + text + "\"", () -> put(worn(), text), VerseColumns::readMap, -100 - fault);
    }
}
