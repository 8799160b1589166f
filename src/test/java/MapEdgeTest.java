import java.util.List;
import java.util.function.Supplier;
import java.util.function.ToIntFunction;

/**
 * Promises 6, 7 and 9 to 11 and what the terms say of the map and the history: each sentence that names a boundary
 * case, at and beside it.
 */
public final class MapEdgeTest extends Checks {
    public static void main(String[] args) {
        noGroupsAtFirst();
        groupsFromZero();
        sizesOfGroups();
        eachVerseOnce();
        pairs();
        leftAlone();
        rightAlone();
        moreThanOne();
        linkLast();
        linkErrors();
        linkToOne();
        partRanges();
        partTooMany();
        partWithoutVerses();
        partAtBothEnds();
        partErrors();
        pairAsManyAsPossible();
        pairTheLongerBook();
        pairIsAnAct();
        exchangeAlike();
        exchangeStays();
        exchangeSwaps();
        exchangeTwice();
        fiveStates();
        oldestDropped();
        historyAtItsEnds();
        latestRestored();
        eachActRecords();
        noActRecords();
        stateHasBooksAndMap();
        refusedActs();
        undoNone();
        statesLeft();
        finish();
    }

    private static void noGroupsAtFirst() {
        sentence("At first there are no groups.");
        VerseColumns x = new VerseColumns();
        due("count(4)", x.count(4), 0);
        due("group(0, 0)", x.group(0, 0), UNKNOWN);
        due("pairAll()", x.pairAll(), 0);
        due("exchange()", x.exchange(), 0);
        for (int group : new int[] {0, 1, -1, MIN, MAX}) {
            refused("link", VerseColumns::new, y -> y.link(group), UNKNOWN);
            refused("part", VerseColumns::new, y -> y.part(group, 1, 0), UNKNOWN);
            refused("group", VerseColumns::new, y -> y.group(group, 0), UNKNOWN);
        }
    }

    private static void groupsFromZero() {
        sentence("The map is a sequence of groups, numbered from 0.");
        ends("group", Checks::small, 0, 5, (x, g) -> x.group(g, 0), g -> g < 4 ? 1 : 2, UNKNOWN);
        ends("group of a worn object", Checks::worn, 0, 2, (x, g) -> x.group(g, 2), g -> g == 0 ? 2 : 1, UNKNOWN);
        ends("group of 120", () -> books(60, 60), 0, 119, (x, g) -> x.group(g, 4), g -> g < 60 ? 0 : 1, UNKNOWN);
        ends("link", Checks::small, 0, 5, (x, g) -> x.link(g), g -> g < 5 ? 5 : NOT_POSSIBLE, UNKNOWN);
        ends("part", Checks::small, 0, 5, (x, g) -> x.part(g, 1, 1), g -> NOT_POSSIBLE, UNKNOWN);
    }

    private static VerseColumns linked(int left, int right) {
        VerseColumns x = books(left, right);
        for (int i = 1; i < left + right; i++) {
            x.link(0);
        }
        return x;
    }

    private static void sizesOfGroups() {
        sentence("(0 to 60 of each, but not 0 of both)");
        dueGroup(linked(60, 60), 0, 3, 0, 60, 0, 60);
        dueGroup(linked(60, 0), 0, 1, 0, 60, NONE, 0);
        dueGroup(linked(0, 60), 0, 2, NONE, 0, 0, 60);
        dueGroup(linked(59, 60), 0, 3, 0, 59, 0, 60);
        dueGroup(linked(1, 60), 0, 3, 0, 1, 0, 60);
        dueGroup(linked(60, 1), 0, 3, 0, 60, 0, 1);
        dueGroup(books(1, 0), 0, 1, 0, 1, NONE, 0);
        dueGroup(books(0, 1), 0, 2, NONE, 0, 0, 1);
        refused("a group of no verses", () -> mapped(1, 1, "1="), x -> x.part(0, 0, 0), NOT_POSSIBLE);
    }

    private static void dueEachOnce(VerseColumns x) {
        int left = 0;
        int right = 0;
        int groups = x.count(4);
        for (int group = 0; group < groups; group++) {
            int lefts = x.group(group, 2);
            int rights = x.group(group, 4);
            due("a group has verses", lefts + rights > 0 ? 1 : 0, 1);
            due("the first left verse of group " + group, x.group(group, 1), lefts == 0 ? NONE : left);
            due("the first right verse of group " + group, x.group(group, 3), rights == 0 ? NONE : right);
            left += lefts;
            right += rights;
        }
        due("the left verses of all groups", left, x.count(2));
        due("the right verses of all groups", right, x.count(3));
    }

    private static void eachVerseOnce() {
        sentence("together the groups have all verses of both books, each once and in their order");
        List<ToIntFunction<VerseColumns>> acts = List.of(x -> x.addChapter(1, 2, 5), x -> x.joinVerses(0, 0),
            x -> x.joinVerses(0, 1), x -> x.joinVerses(1, 0), x -> x.splitVerse(0, 0, 1), x -> x.splitVerse(0, 3, 1),
            x -> x.splitVerse(1, 1, 1), x -> x.link(0), x -> x.link(1), x -> x.part(0, 1, 0), x -> x.part(0, 2, 1),
            x -> put(x, "1>,1<,1+1,2<").readMap(), VerseColumns::pairAll, VerseColumns::exchange, VerseColumns::undo);
        for (ToIntFunction<VerseColumns> act : acts) {
            VerseColumns x = worn();
            due("an act", act.applyAsInt(x) >= 0 ? 1 : 0, 1);
            dueEachOnce(x);
        }
        dueEachOnce(mapped(12, 11, "1>,2<,3+4,1=,1<,2+1,4>,3<"));
    }

    private static void dueKind(int left, int right, String text, int kind) {
        VerseColumns x = mapped(left, right, text);
        due("group(0, 0) of " + text, x.group(0, 0), kind);
        for (int k = 0; k < 4; k++) {
            due("count(" + (5 + k) + ") of " + text, x.count(5 + k), k == kind ? 1 : 0);
        }
    }

    private static void pairs() {
        sentence("A group is of one of these kinds: 0: one verse of each book");
        dueKind(1, 1, "1+1", 0);
        dueKind(1, 1, "1=", 0);
        VerseColumns x = mapped(1, 1, "1=");
        x.splitVerse(0, 0, 50);
        due("a pair with one verse more", x.group(0, 0), 3);
        x.joinVerses(0, 0);
        due("a pair again", x.group(0, 0), 0);
        x.part(0, 1, 0);
        due("the left verse alone", x.group(0, 0), 1);
        due("the right verse alone", x.group(1, 0), 2);
    }

    private static void leftAlone() {
        sentence("1: verses of the left book alone");
        dueKind(1, 0, "1<", 1);
        due("two left verses", linked(2, 0).group(0, 0), 1);
        due("60 left verses", linked(60, 0).group(0, 0), 1);
        due("60 left verses and a right one", linked(60, 1).group(0, 0), 3);
    }

    private static void rightAlone() {
        sentence("2: verses of the right book alone");
        dueKind(0, 1, "1>", 2);
        due("two right verses", linked(0, 2).group(0, 0), 2);
        due("60 right verses", linked(0, 60).group(0, 0), 2);
        due("60 right verses and a left one", linked(1, 60).group(0, 0), 3);
    }

    private static void moreThanOne() {
        sentence("3: verses of both books, but more than one of at least one book.");
        dueKind(1, 2, "1+2", 3);
        dueKind(2, 1, "2+1", 3);
        dueKind(2, 2, "2+2", 3);
        dueKind(1, 60, "1+60", 3);
        dueKind(60, 1, "60+1", 3);
        dueKind(60, 60, "60+60", 3);
    }

    private static void linkLast() {
        sentence("Returns the number of groups then; UNKNOWN; NOT_POSSIBLE if it is the last one.");
        due("the last but one of 6", small().link(4), 5);
        refused("the last one of 6", Checks::small, x -> x.link(5), NOT_POSSIBLE);
        refused("the last one of 3", Checks::worn, x -> x.link(2), NOT_POSSIBLE);
        refused("the only one", () -> books(1, 0), x -> x.link(0), NOT_POSSIBLE);
        refused("the only one of 60+60", () -> mapped(60, 60, "60+60"), x -> x.link(0), NOT_POSSIBLE);
        due("the last but one of 120", books(60, 60).link(118), 119);
        refused("the last one of 120", () -> books(60, 60), x -> x.link(119), NOT_POSSIBLE);
    }

    private static void linkErrors() {
        sentence("- `group`: the first one of both");
        refused("the group behind the last one", Checks::worn, x -> x.link(3), UNKNOWN);
        refused("the group ahead of the first one", Checks::worn, x -> x.link(-1), UNKNOWN);
        refused("the group behind 120", () -> books(60, 60), x -> x.link(120), UNKNOWN);
        refused("the group behind the only one", () -> books(1, 0), x -> x.link(1), UNKNOWN);
    }

    private static void linkToOne() {
        sentence("Links a group and the next one to one group.");
        VerseColumns x = books(2, 2);
        due("link(2)", x.link(2), 3);
        dueMap(x, "1+0 1+0 0+2");
        due("link(0)", x.link(0), 2);
        dueMap(x, "2+0 0+2");
        due("link(0)", x.link(0), 1);
        dueMap(x, "2+2");
        due("link(0)", x.link(0), NOT_POSSIBLE);
    }

    private static VerseColumns sixtyPair() {
        return mapped(60, 60, "60+60");
    }

    private static void partRanges() {
        sentence("- `left`: how many verses of the left book the first one gets, 0 to 60");
        ends("part, left", MapEdgeTest::sixtyPair, 0, 60, (x, n) -> x.part(0, n, 1), n -> 2, BAD_VALUE);
        ends("part, left", Checks::worn, 0, 60, (x, n) -> x.part(0, n, 1), n -> n < 2 ? 4 : NOT_POSSIBLE, BAD_VALUE);
        sentence("- `right`: how many of the right book, 0 to 60");
        ends("part, right", MapEdgeTest::sixtyPair, 0, 60, (x, n) -> x.part(0, 1, n), n -> 2, BAD_VALUE);
        ends("part, right", Checks::worn, 0, 60, (x, n) -> x.part(0, 1, n), n -> n < 2 ? 4 : NOT_POSSIBLE, BAD_VALUE);
    }

    private static void partTooMany() {
        sentence("NOT_POSSIBLE if there are not so many");
        refused("3 of 2 left ones", Checks::worn, x -> x.part(0, 3, 1), NOT_POSSIBLE);
        refused("3 of 2 right ones", Checks::worn, x -> x.part(0, 1, 3), NOT_POSSIBLE);
        refused("60 of 59 left ones", () -> mapped(59, 60, "59+60"), x -> x.part(0, 60, 1), NOT_POSSIBLE);
        refused("60 of 59 right ones", () -> mapped(60, 59, "60+59"), x -> x.part(0, 1, 60), NOT_POSSIBLE);
        refused("1 of no right ones", () -> linked(2, 0), x -> x.part(0, 1, 1), NOT_POSSIBLE);
        refused("1 of no left ones", () -> linked(0, 2), x -> x.part(0, 1, 1), NOT_POSSIBLE);
        refused("verses of the next group", () -> mapped(2, 2, "1=,1+1"), x -> x.part(0, 1, 2), NOT_POSSIBLE);
        due("2 of 2 left ones", worn().part(0, 2, 1), 4);
        due("2 of 2 right ones", worn().part(0, 1, 2), 4);
    }

    private static void partWithoutVerses() {
        sentence("or one of both would have no verses.");
        refused("none for the first one", Checks::worn, x -> x.part(0, 0, 0), NOT_POSSIBLE);
        refused("none for the second one", Checks::worn, x -> x.part(0, 2, 2), NOT_POSSIBLE);
        refused("all 60", MapEdgeTest::sixtyPair, x -> x.part(0, 60, 60), NOT_POSSIBLE);
        refused("none of 60", MapEdgeTest::sixtyPair, x -> x.part(0, 0, 0), NOT_POSSIBLE);
        refused("all of one left verse", () -> books(1, 0), x -> x.part(0, 1, 0), NOT_POSSIBLE);
        refused("none of one left verse", () -> books(1, 0), x -> x.part(0, 0, 0), NOT_POSSIBLE);
        refused("all of one right verse", () -> books(0, 1), x -> x.part(0, 0, 1), NOT_POSSIBLE);
        refused("all of left verses alone", () -> linked(3, 0), x -> x.part(0, 3, 0), NOT_POSSIBLE);
        refused("all of right verses alone", () -> linked(0, 3), x -> x.part(0, 0, 3), NOT_POSSIBLE);
    }

    private static void dueParted(int left, int right, int first, int second, String want) {
        VerseColumns x = mapped(1 + left, right + 1, "1<," + left + "+" + right + ",1>");
        due("part(1, " + first + ", " + second + ") of " + left + "+" + right, x.part(1, first, second), 4);
        dueMap(x, "1+0 " + want + " 0+1");
    }

    private static void partAtBothEnds() {
        sentence("Parts a group into two ones.");
        dueParted(3, 2, 1, 0, "1+0 2+2");
        dueParted(3, 2, 0, 1, "0+1 3+1");
        dueParted(3, 2, 3, 0, "3+0 0+2");
        dueParted(3, 2, 0, 2, "0+2 3+0");
        dueParted(3, 2, 3, 1, "3+1 0+1");
        dueParted(3, 2, 2, 2, "2+2 1+0");
        dueParted(1, 1, 1, 0, "1+0 0+1");
        dueParted(1, 1, 0, 1, "0+1 1+0");
        VerseColumns x = linked(60, 60);
        for (int groups = 2; groups <= 120; groups++) {
            due("part to " + groups, x.part(groups - 2, groups <= 61 ? 1 : 0, groups <= 61 ? 0 : 1), groups);
        }
        due("groups of left verses", x.count(6), 60);
        due("groups of right verses", x.count(7), 60);
    }

    private static void partErrors() {
        sentence("Returns the number of groups then; UNKNOWN; BAD_VALUE; NOT_POSSIBLE if there are not so many");
        refused("a group and left", Checks::worn, x -> x.part(3, 61, 0), UNKNOWN);
        refused("a group and right", Checks::worn, x -> x.part(-1, 0, -1), UNKNOWN);
        refused("a group, nothing for it", Checks::worn, x -> x.part(3, 0, 0), UNKNOWN);
        refused("left, not so many right ones", Checks::worn, x -> x.part(0, -1, 3), BAD_VALUE);
        refused("left, not so many", Checks::worn, x -> x.part(0, 61, 0), BAD_VALUE);
        refused("right, not so many", Checks::worn, x -> x.part(0, 0, 61), BAD_VALUE);
        refused("right, not so many left ones", Checks::worn, x -> x.part(0, 3, -1), BAD_VALUE);
        refused("both", Checks::worn, x -> x.part(0, MIN, MIN), BAD_VALUE);
        refused("both, their sum is that of the group", Checks::worn, x -> x.part(0, -1, 1), BAD_VALUE);
        refused("60 of each", Checks::worn, x -> x.part(0, 60, 60), NOT_POSSIBLE);
    }

    private static void duePairs(int left, int right, int pairs, int lefts, int rights) {
        VerseColumns x = books(left, right);
        String told = " of " + left + " and " + right;
        due("pairAll()" + told, x.pairAll(), pairs + lefts + rights);
        due("pairs" + told, x.count(5), pairs);
        due("left ones alone" + told, x.count(6), lefts);
        due("right ones alone" + told, x.count(7), rights);
        due("other ones" + told, x.count(8), 0);
        if (pairs > 0) {
            due("the last pair" + told, x.group(pairs - 1, 0), 0);
        }
        if (lefts + rights > 0) {
            due("behind the last pair" + told, x.group(pairs, 0), lefts > 0 ? 1 : 2);
        }
    }

    private static void pairAsManyAsPossible() {
        sentence("as many groups of one verse of each book as possible, from the beginning");
        duePairs(0, 0, 0, 0, 0);
        duePairs(1, 1, 1, 0, 0);
        duePairs(2, 2, 2, 0, 0);
        duePairs(59, 59, 59, 0, 0);
        duePairs(60, 60, 60, 0, 0);
        VerseColumns x = mapped(3, 3, "3+3");
        due("pairAll() of one group", x.pairAll(), 3);
        dueMap(x, "1+1 1+1 1+1");
    }

    private static void pairTheLongerBook() {
        sentence("then groups of one verse of the longer book");
        duePairs(1, 0, 0, 1, 0);
        duePairs(0, 1, 0, 0, 1);
        duePairs(60, 0, 0, 60, 0);
        duePairs(0, 60, 0, 0, 60);
        duePairs(2, 1, 1, 1, 0);
        duePairs(1, 2, 1, 0, 1);
        duePairs(60, 59, 59, 1, 0);
        duePairs(59, 60, 59, 0, 1);
        duePairs(60, 1, 1, 59, 0);
        duePairs(1, 60, 1, 0, 59);
    }

    private static void pairIsAnAct() {
        sentence("Returns the number of groups.");
        VerseColumns x = books(2, 2);
        due("pairAll()", x.pairAll(), 2);
        due("pairAll() again", x.pairAll(), 2);
        due("states", x.count(11), 4);
        VerseColumns empty = new VerseColumns();
        due("pairAll() without verses", empty.pairAll(), 0);
        due("states", empty.count(11), 1);
        due("undo()", empty.undo(), 0);
    }

    private static void dueAlike(int left, int right, String text, int alike) {
        due("exchange() of " + text, mapped(left, right, text).exchange(), alike);
    }

    private static void exchangeAlike() {
        sentence("Returns the number of groups that look alike afterwards (as many verses of the left as of the right book).");
        due("exchange() of no groups", new VerseColumns().exchange(), 0);
        dueAlike(1, 1, "1=", 1);
        dueAlike(1, 0, "1<", 0);
        dueAlike(0, 1, "1>", 0);
        dueAlike(2, 2, "2+2", 1);
        dueAlike(2, 1, "2+1", 0);
        dueAlike(1, 2, "1+2", 0);
        dueAlike(60, 60, "60+60", 1);
        dueAlike(60, 59, "60+59", 0);
        dueAlike(60, 60, "60=", 60);
        dueAlike(60, 60, "60<,60>", 0);
        dueAlike(8, 8, "1=,2+2,2<,2>,2+1,1+2", 2);
    }

    private static void exchangeStays() {
        sentence("the widths of the columns stay");
        VerseColumns x = worn();
        x.exchange();
        due("lines of a verse of 130 letters at 50", x.verse(0, 0, 4), 3);
        due("lines of a verse of 100 letters at 30", x.verse(1, 0, 4), 4);
        due("setWidth(0, 10)", x.setWidth(0, 10), 50);
        due("setWidth(1, 200)", x.setWidth(1, 200), 30);
        x.exchange();
        due("setWidth(0, 40)", x.setWidth(0, 40), 10);
        due("setWidth(1, 40)", x.setWidth(1, 40), 200);
        due("setHeights(40, 2)", x.setHeights(40, 2), 20);
        due("clearText()", x.clearText(), 5);
    }

    private static void exchangeSwaps() {
        sentence("Exchanges both books, with their verses in all groups");
        VerseColumns x = worn();
        due("exchange()", x.exchange(), 1);
        dueMap(x, "2+2 0+1 0+1");
        due("chapters of the left book", x.count(0), 1);
        due("chapters of the right book", x.count(1), 2);
        due("verses of the left book", x.count(2), 2);
        due("verses of the right book", x.count(3), 4);
        due("letters of the last right verse", x.verse(1, 3, 2), 250);
        due("note of the second right verse", x.verse(1, 1, 3), 3);
        due("letters of the first left verse", x.verse(0, 0, 2), 130);
        VerseColumns one = books(60, 0);
        due("exchange() with an empty book", one.exchange(), 0);
        due("verses of the left book", one.count(2), 0);
        due("verses of the right book", one.count(3), 60);
        due("chapter 1 of the left book", one.chapter(0, 1, 0), UNKNOWN);
        due("addChapter(0, 60, 5)", one.addChapter(0, 60, 5), 1);
        due("addChapter(1, 1, 5)", one.addChapter(1, 1, 5), FULL);
    }

    private static void exchangeTwice() {
        sentence("Exchanges both books");
        VerseColumns x = worn();
        x.exchange();
        x.exchange();
        VerseColumns y = worn();
        same("two exchanges", groups(x, 0, 3), groups(y, 0, 3));
        same("two exchanges", verses(x, 0), verses(y, 0));
        same("two exchanges", verses(x, 1), verses(y, 1));
    }

    /** So many acts, each one seen by the letters of the verse. */
    private static VerseColumns acted(int acts) {
        VerseColumns x = new VerseColumns();
        for (int i = 1; i <= acts; i++) {
            if (i == 1) {
                x.addChapter(0, 1, 101);
            } else {
                x.setVerse(0, 0, 100 + i, 0);
            }
        }
        return x;
    }

    private static void fiveStates() {
        sentence("A history of at most 5 states is kept");
        for (int acts : new int[] {0, 1, 2, 3, 4, 5, 6, 7, 100}) {
            VerseColumns x = acted(acts);
            int kept = Math.min(acts, 5);
            due("states after " + acts + " acts", x.count(11), kept);
            for (int left = kept - 1; left >= 0; left--) {
                due("undo()", x.undo(), left);
                due("states", x.count(11), left);
            }
            refused("undo() of all", () -> undoneBy(acted(acts), kept), VerseColumns::undo, NONE);
        }
    }

    private static VerseColumns undoneBy(VerseColumns x, int undos) {
        for (int i = 0; i < undos; i++) {
            x.undo();
        }
        return x;
    }

    private static void oldestDropped() {
        sentence("when one more is recorded, the oldest one is dropped");
        due("5 acts, 5 undos: no verse", undoneBy(acted(5), 5).count(2), 0);
        due("6 acts, 5 undos: the first act stays", undoneBy(acted(6), 5).verse(0, 0, 2), 101);
        due("7 acts, 5 undos: the second one, too", undoneBy(acted(7), 5).verse(0, 0, 2), 102);
        due("100 acts, 5 undos", undoneBy(acted(100), 5).verse(0, 0, 2), 195);
        due("100 acts, 4 undos", undoneBy(acted(100), 4).verse(0, 0, 2), 196);
        due("100 acts, 1 undo", undoneBy(acted(100), 1).verse(0, 0, 2), 199);
    }

    private static void historyAtItsEnds() {
        sentence("undo() removes and restores the latest one");
        VerseColumns x = undoneBy(acted(5), 2);
        due("states", x.count(11), 3);
        x.setVerse(0, 0, 500, 0);
        x.setVerse(0, 0, 501, 0);
        due("states", x.count(11), 5);
        x.setVerse(0, 0, 502, 0);
        due("states", x.count(11), 5);
        int[] letters = {501, 500, 103, 102, 101};
        for (int i = 0; i < letters.length; i++) {
            due("undo()", x.undo(), 4 - i);
            due("letters", x.verse(0, 0, 2), letters[i]);
        }
        due("undo()", x.undo(), NONE);
        due("letters", x.verse(0, 0, 2), 101);
    }

    private static void latestRestored() {
        sentence("Restores the latest state of the history.");
        VerseColumns x = worn();
        x.undo();
        dueMap(x, "1+1 1+1 1+0 1+0");
        x.undo();
        dueMap(x, "1+0 1+0 1+0 1+0 0+1 0+1");
        x.undo();
        due("note", x.verse(0, 1, 3), 0);
        due("letters", x.verse(0, 1, 2), 100);
        x.undo();
        due("right verses", x.count(3), 0);
        dueMap(x, "1+0 1+0 1+0 1+0");
        x.undo();
        due("chapters", x.count(0), 1);
        due("undo()", x.undo(), NONE);
        due("chapters", x.count(0), 1);
    }

    private static final List<ToIntFunction<VerseColumns>> ACTS = List.of(x -> x.addChapter(1, 2, 5),
        x -> x.setVerse(0, 0, 7, 7), x -> x.joinVerses(0, 0), x -> x.splitVerse(1, 1, 1), x -> x.link(0),
        x -> x.part(0, 1, 1), VerseColumns::readMap, VerseColumns::pairAll, VerseColumns::exchange);

    private static void eachActRecords() {
        sentence("Each call of a method described as an act that returns no error records the state before it.");
        for (ToIntFunction<VerseColumns> act : ACTS) {
            dueRecorded(act, () -> mapped(3, 2, "2+2,1<"), 3, 4);
            dueRecorded(act, () -> put(worn(), "4<,2>"), 5, 5);
        }
    }

    private static void dueRecorded(ToIntFunction<VerseColumns> act, Supplier<VerseColumns> made, int before, int then) {
        VerseColumns x = made.get();
        due("states", x.count(11), before);
        due("an act", act.applyAsInt(x) >= 0 ? 1 : 0, 1);
        due("states", x.count(11), then);
        due("undo()", x.undo(), then - 1);
        VerseColumns y = made.get();
        dueMap(x, map(y));
        same("undo()", verses(x, 0), verses(y, 0));
        same("undo()", verses(x, 1), verses(y, 1));
    }

    private static void noActRecords() {
        sentence("records the state before it");
        List<ToIntFunction<VerseColumns>> calls = List.of(x -> x.type('1'), VerseColumns::clearText, x -> x.refer(0, 0),
            x -> x.beside(0, 0, 0), x -> x.setWidth(0, 20), x -> x.setHeights(30, 1), x -> x.page(0, 0),
            x -> x.chapter(0, 1, 0), x -> x.verse(0, 0, 0), x -> x.group(0, 0), x -> x.count(0));
        for (ToIntFunction<VerseColumns> call : calls) {
            VerseColumns x = small();
            due("no error", call.applyAsInt(x) >= 0 ? 1 : 0, 1);
            due("states", x.count(11), 4);
            VerseColumns full = worn();
            call.applyAsInt(full);
            due("states", full.count(11), 5);
            full.undo();
            dueMap(full, "1+1 1+1 1+0 1+0");
        }
        VerseColumns x = small();
        x.undo();
        due("undo() records nothing", x.count(11), 3);
    }

    private static void stateHasBooksAndMap() {
        sentence("A state consists of both books and the map.");
        VerseColumns x = small();
        x.setVerse(1, 0, 9, 9);
        x.setWidth(0, 60);
        x.setWidth(1, 70);
        x.setHeights(90, 4);
        put(x, "77");
        x.undo();
        due("letters", x.verse(1, 0, 2), 130);
        due("note", x.verse(1, 0, 3), 0);
        due("the height of headings stays", x.group(0, 5), 6);
        due("setWidth(0, 10)", x.setWidth(0, 10), 60);
        due("setWidth(1, 10)", x.setWidth(1, 10), 70);
        due("setHeights(10, 0)", x.setHeights(10, 0), 90);
        due("clearText()", x.clearText(), 2);
    }

    private static void refusedActs() {
        sentence("A call that reports an error or NONE changes nothing.");
        // Once with 4 states, where one more would be counted, and once with 5, where the oldest would be lost.
        dueRefused(Checks::small, 5);
        dueRefused(Checks::worn, 2);
    }

    private static void dueRefused(Supplier<VerseColumns> made, int lastGroup) {
        refused("addChapter", made, x -> x.addChapter(0, 57, 1), FULL);
        refused("setVerse", made, x -> x.setVerse(0, 4, 1, 1), UNKNOWN);
        refused("joinVerses", made, x -> x.joinVerses(0, 3), NOT_POSSIBLE);
        refused("splitVerse", made, x -> x.splitVerse(0, 0, 100), NOT_POSSIBLE);
        refused("link", made, x -> x.link(lastGroup), NOT_POSSIBLE);
        refused("part", made, x -> x.part(lastGroup, 0, 0), NOT_POSSIBLE);
        refused("readMap", made, VerseColumns::readMap, -101);
    }

    private static void undoNone() {
        sentence("NONE if the history is empty.");
        refused("undo() of a new object", VerseColumns::new, VerseColumns::undo, NONE);
        refused("undo() of an object with measures and a text", () -> {
            VerseColumns x = put(new VerseColumns(), "1:1");
            x.setWidth(0, 20);
            return x;
        }, VerseColumns::undo, NONE);
        refused("undo() after all undos", () -> undoneBy(worn(), 5), VerseColumns::undo, NONE);
        VerseColumns x = new VerseColumns();
        x.undo();
        x.undo();
        x.pairAll();
        due("undo() of one act", x.undo(), 0);
        due("undo() then", x.undo(), NONE);
    }

    private static void statesLeft() {
        sentence("Returns the number of states that are left; NONE");
        due("undo() of 1", acted(1).undo(), 0);
        due("undo() of 2", acted(2).undo(), 1);
        due("undo() of 4", acted(4).undo(), 3);
        due("undo() of 5", acted(5).undo(), 4);
        due("undo() of 6", acted(6).undo(), 4);
    }
}
