import java.util.ArrayDeque;
import java.util.ArrayList;
import java.util.Deque;
import java.util.List;

/**
 * Runs of calls on VerseColumns and on a model of the document that is written another way: groups hold their
 * verses, and the text is read sign by sign through the places of a grammar. The runs are the same each time.
 */
public final class ModelTest {
    private static final int RUNS = 1500;
    private static final int CALLS = 512;

    private static long seed;
    private static int wrong = 0;
    private static final long[] answers = new long[24];
    private static final long[] goodAnswers = new long[24];

    private VerseColumns real;
    private Model model;
    private final StringBuilder told = new StringBuilder();
    private int calls;
    private boolean failed;

    public static void main(String[] args) {
        for (int run = 0; run < RUNS && wrong == 0; run++) {
            seed = 77_777L * run + 5;
            new ModelTest().runOne(run % 6);
        }
        String[] names = {"addChapter", "setVerse", "joinVerses", "splitVerse", "link", "part", "readMap", "pairAll",
            "exchange", "undo", "type", "clearText", "refer", "beside", "setWidth", "setHeights", "page", "chapter",
            "verse", "group", "count"};
        for (int i = 0; i < names.length; i++) {
            System.out.println(names[i] + ": " + answers[i] + " calls, " + goodAnswers[i] + " without an error");
            if (goodAnswers[i] < 1000) {
                System.out.println("  too few to tell anything");
                wrong++;
            }
        }
        if (wrong != 0) {
            System.exit(1);
        }
    }

    private static int random(int bound) {
        seed = seed * 6364136223846793005L + 1442695040888963407L;
        return (int) ((seed >>> 33) % bound);
    }

    /** Mostly from the range, now and then a bit outside of it, seldom far outside. */
    private static int near(int least, int greatest) {
        int kind = random(40);
        if (kind == 0) {
            return least - 1;
        }
        if (kind == 1) {
            return greatest + 1;
        }
        if (kind == 2) {
            return new int[] {Integer.MIN_VALUE, Integer.MAX_VALUE, -1, 0, 1000000, -7}[random(6)];
        }
        if (kind == 3) {
            return least;
        }
        if (kind == 4 || greatest < least) {
            return greatest;
        }
        return least + random(greatest - least + 1);
    }

    private static int book() {
        return random(50) == 0 ? new int[] {2, -1, Integer.MAX_VALUE, Integer.MIN_VALUE}[random(4)] : random(2);
    }

    private void runOne(int style) {
        real = new VerseColumns();
        model = new Model();
        int chapterSize = new int[] {3, 8, 20, 60, 2, 12}[style];
        if (style == 1 || style == 5) {
            addChapter(0, chapterSize, 100);
            addChapter(1, chapterSize + 1, 120);
            pairAll();
        }
        while (calls < CALLS - 40 && !failed) {
            step(style, chapterSize);
        }
    }

    private void step(int style, int chapterSize) {
        int book = book();
        int side = book == 1 ? 1 : 0;
        int verses = model.state.books.get(side).size();
        int groups = model.state.groups.size();
        switch (random(34)) {
            case 0:
                addChapter(book, near(1, 1 + random(chapterSize)), near(1, 2000));
                break;
            case 1:
                setVerse(book, near(0, verses - 1), near(1, random(3) == 0 ? 2000 : 300), near(0, 10));
                break;
            case 2:
                if (style != 3 || random(3) == 0) {
                    joinVerses(book, near(0, verses - 1));
                }
                break;
            case 3:
                splitVerse(book, near(0, verses - 1), near(1, random(4) == 0 ? 1999 : 60));
                break;
            case 4:
                link(near(0, groups - 1));
                break;
            case 5: case 6:
                partSome(groups);
                break;
            case 7: case 8:
                writeMap();
                readMap();
                break;
            case 9:
                if (random(4) == 0) {
                    pairAll();
                }
                break;
            case 10:
                exchange();
                break;
            case 11:
                for (int i = random(4); i >= 0; i--) {
                    undo();
                }
                break;
            case 12:
                type((char) random(random(4) == 0 ? 65536 : 128));
                break;
            case 13:
                fillText();
                break;
            case 14: case 15: case 16: case 17: case 18: case 19:
                writeReference(side);
                for (int what = 0; what < 7; what++) {
                    refer(random(20) == 0 ? 1 - side : side, what);
                }
                refer(book, near(0, 6));
                break;
            case 20:
                beside(book, near(0, verses - 1), near(0, 2));
                break;
            case 21:
                setWidth(book, near(10, random(2) == 0 ? 200 : 40));
                break;
            case 22:
                setHeights(near(5, 200), near(0, 5));
                break;
            case 23:
                for (int what = 0; what < 5; what++) {
                    page(near(0, Math.max(0, model.pages().size() - 1)), what);
                }
                page(near(0, 3), near(0, 4));
                break;
            case 24:
                chapter(book, near(1, model.chapters(side)), near(0, 2));
                break;
            case 25:
                verse(book, near(0, verses - 1), near(0, 4));
                break;
            case 26: case 27: case 28:
                int group = near(0, groups - 1);
                for (int what = 0; what < 9; what++) {
                    group(group, what);
                }
                group(group, near(0, 8));
                break;
            case 29:
                count(near(0, 11));
                break;
            case 30:
                for (int what = 0; what < 12; what++) {
                    count(what);
                }
                break;
            case 31:
                clearText();
                break;
            case 32:
                readMap();
                break;
            default:
                refer(book, near(0, 6));
                break;
        }
    }

    private void partSome(int groups) {
        int group = near(0, groups - 1);
        // A group that can be parted is sought from there on.
        for (int i = 0; i < groups && group >= 0 && group < groups; i++) {
            if (model.state.groups.get((group + i) % groups).size() > 1) {
                group = (group + i) % groups;
                break;
            }
        }
        if (group < 0 || group >= groups) {
            part(group, near(0, 60), near(0, 60));
            return;
        }
        List<Verse> left = model.side(group, 0);
        List<Verse> right = model.side(group, 1);
        part(group, near(0, left.size()), near(0, right.size()));
    }

    private void write(String text) {
        clearText();
        for (int i = 0; i < text.length(); i++) {
            type(text.charAt(i));
        }
    }

    private void fillText() {
        if (random(12) == 0 && calls < CALLS - 130) {
            for (int i = 0; i < 84; i++) {
                type((char) ('0' + random(10)));
            }
            clearText();
        }
    }

    private String number(int n) {
        int kind = random(60);
        if (kind == 0) {
            return "0" + n;
        }
        if (kind == 1) {
            return n + "0";
        }
        if (kind == 2) {
            return "" + (n + 1);
        }
        if (kind == 3) {
            return "" + random(100);
        }
        return "" + n;
    }

    private String spoiled(String text) {
        if (random(4) != 0) {
            return text;
        }
        String signs = "0123456789:-,=<>+ x" + (char) ('1' + 256) + (char) 0;
        int at = random(text.length() + 1);
        String sign = "" + signs.charAt(random(signs.length()));
        switch (random(4)) {
            case 0:
                return text.substring(0, at);
            case 1:
                return text.substring(0, at) + sign + text.substring(at);
            case 2:
                return text + sign;
            default:
                return text.substring(0, at) + sign + text.substring(Math.min(text.length(), at + 1));
        }
    }

    private void writeReference(int book) {
        List<Verse> verses = model.state.books.get(book);
        if (verses.isEmpty()) {
            write(spoiled(number(1 + random(3)) + ":" + number(1)));
            return;
        }
        int from = random(verses.size());
        int to = random(8) == 0 ? random(verses.size()) : Math.min(verses.size() - 1, from + random(5));
        String text = number(verses.get(from).chapter) + ":" + number(model.numberOf(book, from));
        switch (random(4)) {
            case 0:
                break;
            case 1:
                text += "-" + number(model.numberOf(book, to));
                break;
            default:
                text += "-" + number(verses.get(to).chapter) + ":" + number(model.numberOf(book, to));
                break;
        }
        write(spoiled(text));
    }

    private void writeMap() {
        int left = model.state.books.get(0).size();
        int right = model.state.books.get(1).size();
        StringBuilder text = new StringBuilder();
        while ((left > 0 || right > 0) && text.length() < 20) {
            text.append(text.length() == 0 ? "" : ",");
            int most = random(3) == 0 ? 60 : 6;
            boolean ends = text.length() > 12;
            int l = left == 0 ? 0 : ends ? left : 1 + random(Math.min(left, most));
            int r = right == 0 ? 0 : ends ? right : 1 + random(Math.min(right, most));
            int kind = l == 0 ? 2 : r == 0 ? 1 : ends ? 3 : random(4);
            if (kind == 0) {
                int both = Math.min(l, r);
                text.append(number(both)).append('=');
                l = both;
                r = both;
            } else if (kind == 1) {
                text.append(number(l)).append('<');
                r = 0;
            } else if (kind == 2) {
                text.append(number(r)).append('>');
                l = 0;
            } else {
                text.append(number(l)).append('+').append(number(r));
            }
            left -= l;
            right -= r;
        }
        write(spoiled(text.toString()));
    }

    private void compare(int which, String call, long got, long want) {
        calls++;
        answers[which]++;
        if (want >= 0) {
            goodAnswers[which]++;
        }
        told.append(call).append(" = ").append(got).append('\n');
        if (got != want && !failed) {
            failed = true;
            wrong++;
            System.out.println(told);
            System.out.println(call + " answered " + got + ", the model says " + want);
        }
    }

    private void addChapter(int book, int verses, int letters) {
        compare(0, "addChapter(" + book + ", " + verses + ", " + letters + ")",
            real.addChapter(book, verses, letters), model.addChapter(book, verses, letters));
    }

    private void setVerse(int book, int verse, int letters, int note) {
        compare(1, "setVerse(" + book + ", " + verse + ", " + letters + ", " + note + ")",
            real.setVerse(book, verse, letters, note), model.setVerse(book, verse, letters, note));
    }

    private void joinVerses(int book, int verse) {
        compare(2, "joinVerses(" + book + ", " + verse + ")", real.joinVerses(book, verse), model.joinVerses(book, verse));
    }

    private void splitVerse(int book, int verse, int letters) {
        compare(3, "splitVerse(" + book + ", " + verse + ", " + letters + ")",
            real.splitVerse(book, verse, letters), model.splitVerse(book, verse, letters));
    }

    private void link(int group) {
        compare(4, "link(" + group + ")", real.link(group), model.link(group));
    }

    private void part(int group, int left, int right) {
        compare(5, "part(" + group + ", " + left + ", " + right + ")",
            real.part(group, left, right), model.part(group, left, right));
    }

    private void readMap() {
        compare(6, "readMap()", real.readMap(), model.readMap());
    }

    private void pairAll() {
        compare(7, "pairAll()", real.pairAll(), model.pairAll());
    }

    private void exchange() {
        compare(8, "exchange()", real.exchange(), model.exchange());
    }

    private void undo() {
        compare(9, "undo()", real.undo(), model.undo());
    }

    private void type(char sign) {
        compare(10, "type((char) " + (int) sign + ")", real.type(sign), model.type(sign));
    }

    private void clearText() {
        compare(11, "clearText()", real.clearText(), model.clearText());
    }

    private void refer(int book, int what) {
        compare(12, "refer(" + book + ", " + what + ")", real.refer(book, what), model.refer(book, what));
    }

    private void beside(int book, int verse, int what) {
        compare(13, "beside(" + book + ", " + verse + ", " + what + ")",
            real.beside(book, verse, what), model.beside(book, verse, what));
    }

    private void setWidth(int book, int width) {
        compare(14, "setWidth(" + book + ", " + width + ")", real.setWidth(book, width), model.setWidth(book, width));
    }

    private void setHeights(int page, int heading) {
        compare(15, "setHeights(" + page + ", " + heading + ")",
            real.setHeights(page, heading), model.setHeights(page, heading));
    }

    private void page(int page, int what) {
        compare(16, "page(" + page + ", " + what + ")", real.page(page, what), model.page(page, what));
    }

    private void chapter(int book, int chapter, int what) {
        compare(17, "chapter(" + book + ", " + chapter + ", " + what + ")",
            real.chapter(book, chapter, what), model.chapter(book, chapter, what));
    }

    private void verse(int book, int verse, int what) {
        compare(18, "verse(" + book + ", " + verse + ", " + what + ")",
            real.verse(book, verse, what), model.verse(book, verse, what));
    }

    private void group(int group, int what) {
        compare(19, "group(" + group + ", " + what + ")", real.group(group, what), model.group(group, what));
    }

    private void count(int what) {
        compare(20, "count(" + what + ")", real.count(what), model.count(what));
    }

    private static final class Verse {
        private final int chapter;
        private int letters;
        private int note;

        Verse(int chapter, int letters, int note) {
            this.chapter = chapter;
            this.letters = letters;
            this.note = note;
        }
    }

    private static final class State {
        private final List<List<Verse>> books = new ArrayList<>();
        /** Verses of both books in one list: which book they are of is looked up. */
        private final List<List<Verse>> groups = new ArrayList<>();

        State() {
            books.add(new ArrayList<>());
            books.add(new ArrayList<>());
        }

        State copy() {
            State copy = new State();
            List<Verse> from = new ArrayList<>();
            List<Verse> to = new ArrayList<>();
            for (int book = 0; book < 2; book++) {
                for (Verse verse : books.get(book)) {
                    Verse twin = new Verse(verse.chapter, verse.letters, verse.note);
                    from.add(verse);
                    to.add(twin);
                    copy.books.get(book).add(twin);
                }
            }
            for (List<Verse> group : groups) {
                List<Verse> twins = new ArrayList<>();
                for (Verse verse : group) {
                    twins.add(to.get(from.indexOf(verse)));
                }
                copy.groups.add(twins);
            }
            return copy;
        }
    }

    /** What the document says, in the plainest form. */
    private static final class Model {
        private State state = new State();
        private final Deque<State> history = new ArrayDeque<>();
        private String text = "";
        private final int[] width = {40, 40};
        private int pageHeight = 40;
        private int heading = 2;

        private void act() {
            history.addLast(state.copy());
            if (history.size() > 5) {
                history.removeFirst();
            }
        }

        private boolean noBook(int book) {
            return book != 0 && book != 1;
        }

        private boolean noVerse(int book, int verse) {
            return noBook(book) || verse < 0 || verse >= state.books.get(book).size();
        }

        private boolean noGroup(int group) {
            return group < 0 || group >= state.groups.size();
        }

        private int chapters(int book) {
            int most = 0;
            for (Verse verse : state.books.get(book)) {
                most = Math.max(most, verse.chapter);
            }
            return most;
        }

        private int numberOf(int book, int verse) {
            List<Verse> verses = state.books.get(book);
            int number = 1;
            while (verse - number >= 0 && verses.get(verse - number).chapter == verses.get(verse).chapter) {
                number++;
            }
            return number;
        }

        /** The index of a verse in its book, or -1. */
        private int find(int book, int chapter, int number) {
            for (int i = 0; i < state.books.get(book).size(); i++) {
                if (state.books.get(book).get(i).chapter == chapter && numberOf(book, i) == number) {
                    return i;
                }
            }
            return -1;
        }

        private List<Verse> side(int group, int book) {
            List<Verse> side = new ArrayList<>(state.groups.get(group));
            side.retainAll(state.books.get(book));
            return side;
        }

        private int groupOf(Verse verse) {
            for (int i = 0; i < state.groups.size(); i++) {
                if (state.groups.get(i).contains(verse)) {
                    return i;
                }
            }
            throw new IllegalStateException("a verse without a group");
        }

        private void merge(int first, int last) {
            for (int i = first; i < last; i++) {
                List<Verse> left = side(first, 0);
                left.addAll(side(first + 1, 0));
                left.addAll(side(first, 1));
                left.addAll(side(first + 1, 1));
                state.groups.set(first, left);
                state.groups.remove(first + 1);
            }
        }

        int addChapter(int book, int verses, int letters) {
            if (noBook(book)) {
                return -1;
            }
            if (verses < 1 || verses > 60 || letters < 1 || letters > 2000) {
                return -2;
            }
            if (chapters(book) == 10 || state.books.get(book).size() + verses > 60) {
                return -3;
            }
            act();
            int chapter = chapters(book) + 1;
            for (int i = 0; i < verses; i++) {
                Verse verse = new Verse(chapter, letters, 0);
                state.books.get(book).add(verse);
                state.groups.add(new ArrayList<>(List.of(verse)));
            }
            return chapter;
        }

        int setVerse(int book, int verse, int letters, int note) {
            if (noVerse(book, verse)) {
                return -1;
            }
            if (letters < 1 || letters > 2000 || note < 0 || note > 10) {
                return -2;
            }
            act();
            Verse changed = state.books.get(book).get(verse);
            int previous = changed.letters;
            changed.letters = letters;
            changed.note = note;
            return previous;
        }

        int joinVerses(int book, int verse) {
            if (noVerse(book, verse)) {
                return -1;
            }
            List<Verse> verses = state.books.get(book);
            if (verse + 1 == verses.size() || verses.get(verse + 1).chapter != verses.get(verse).chapter) {
                return -4;
            }
            act();
            Verse first = verses.get(verse);
            Verse second = verses.get(verse + 1);
            merge(groupOf(first), groupOf(second));
            state.groups.get(groupOf(second)).remove(second);
            verses.remove(second);
            first.letters = Math.min(2000, first.letters + second.letters);
            first.note = Math.min(10, first.note + second.note);
            return verses.size();
        }

        int splitVerse(int book, int verse, int letters) {
            if (noVerse(book, verse)) {
                return -1;
            }
            if (letters < 1 || letters > 1999) {
                return -2;
            }
            List<Verse> verses = state.books.get(book);
            Verse first = verses.get(verse);
            if (first.letters - letters < 1) {
                return -4;
            }
            if (verses.size() == 60) {
                return -3;
            }
            act();
            Verse second = new Verse(first.chapter, first.letters - letters, 0);
            first.letters = letters;
            verses.add(verse + 1, second);
            List<Verse> group = state.groups.get(groupOf(first));
            group.add(group.indexOf(first) + 1, second);
            return verses.size();
        }

        int link(int group) {
            if (noGroup(group)) {
                return -1;
            }
            if (group == state.groups.size() - 1) {
                return -4;
            }
            act();
            merge(group, group + 1);
            return state.groups.size();
        }

        int part(int group, int left, int right) {
            if (noGroup(group)) {
                return -1;
            }
            if (left < 0 || left > 60 || right < 0 || right > 60) {
                return -2;
            }
            List<Verse> lefts = side(group, 0);
            List<Verse> rights = side(group, 1);
            if (left > lefts.size() || right > rights.size()) {
                return -4;
            }
            List<Verse> first = new ArrayList<>(lefts.subList(0, left));
            first.addAll(rights.subList(0, right));
            List<Verse> second = new ArrayList<>(lefts.subList(left, lefts.size()));
            second.addAll(rights.subList(right, rights.size()));
            if (first.isEmpty() || second.isEmpty()) {
                return -4;
            }
            act();
            state.groups.set(group, first);
            state.groups.add(group + 1, second);
            return state.groups.size();
        }

        private void groupBy(List<int[]> sizes) {
            state.groups.clear();
            int[] used = new int[2];
            for (int[] size : sizes) {
                List<Verse> group = new ArrayList<>();
                for (int book = 0; book < 2; book++) {
                    group.addAll(state.books.get(book).subList(used[book], used[book] + size[book]));
                    used[book] += size[book];
                }
                state.groups.add(group);
            }
        }

        private static boolean digit(char sign) {
            return "0123456789".indexOf(sign) >= 0;
        }

        /** Reads the text sign by sign; a sign 0 that is not in the text stands behind it. */
        int readMap() {
            List<int[]> sizes = new ArrayList<>();
            int[] rest = {state.books.get(0).size(), state.books.get(1).size()};
            // n: nothing yet, N: 1 or 2 digits of n, m and M: the same of m, c: behind an item.
            char place = 'n';
            String digits = "";
            int start = 0;
            int n = 0;
            for (int i = 0; i <= text.length(); i++) {
                boolean over = i == text.length();
                char sign = over ? 0 : text.charAt(i);
                boolean digit = !over && digit(sign);
                if (place == 'M' && !digit) {
                    int m = Integer.parseInt(digits);
                    if (m > rest[1]) {
                        return -100 - start;
                    }
                    rest[1] -= m;
                    sizes.add(new int[] {n, m});
                    place = 'c';
                }
                if (over) {
                    if (place != 'c' || rest[0] + rest[1] > 0) {
                        return -100 - i;
                    }
                } else if (place == 'c') {
                    if (sign != ',') {
                        return -100 - i;
                    }
                    place = 'n';
                } else if (place == 'n' || place == 'm') {
                    if (!digit || sign == '0') {
                        return -100 - i;
                    }
                    start = i;
                    digits = "" + sign;
                    place = place == 'n' ? 'N' : 'M';
                } else if (digit) {
                    digits += sign;
                    if (digits.length() > 2) {
                        return -100 - i;
                    }
                } else {
                    n = Integer.parseInt(digits);
                    int kind = "=<>+".indexOf(sign);
                    if (kind < 0) {
                        return -100 - i;
                    }
                    if (kind != 2 && n > rest[0] || (kind == 0 || kind == 2) && n > rest[1]) {
                        return -100 - start;
                    }
                    for (int k = 0; k < n && kind < 3; k++) {
                        sizes.add(new int[] {kind == 2 ? 0 : 1, kind == 1 ? 0 : 1});
                    }
                    rest[0] -= kind == 2 ? 0 : n;
                    rest[1] -= kind == 0 || kind == 2 ? n : 0;
                    place = kind == 3 ? 'm' : 'c';
                }
            }
            act();
            groupBy(sizes);
            return sizes.size();
        }

        int pairAll() {
            act();
            List<int[]> sizes = new ArrayList<>();
            int left = state.books.get(0).size();
            int right = state.books.get(1).size();
            while (left > 0 || right > 0) {
                sizes.add(new int[] {left > 0 ? 1 : 0, right > 0 ? 1 : 0});
                left--;
                right--;
            }
            groupBy(sizes);
            return sizes.size();
        }

        int exchange() {
            act();
            state.books.add(state.books.remove(0));
            int alike = 0;
            for (int i = 0; i < state.groups.size(); i++) {
                alike += side(i, 0).size() == side(i, 1).size() ? 1 : 0;
            }
            return alike;
        }

        int undo() {
            if (history.isEmpty()) {
                return -5;
            }
            state = history.removeLast();
            return history.size();
        }

        int type(char sign) {
            if (text.length() == 80) {
                return -3;
            }
            text += sign;
            return text.length();
        }

        int clearText() {
            int length = text.length();
            text = "";
            return length;
        }

        /** The first and the last verse, or the fault alone. */
        private int[] reference(int book) {
            List<Integer> numbers = new ArrayList<>();
            List<Integer> starts = new ArrayList<>();
            int index = 0;
            int first = -1;
            while (true) {
                // A number.
                int start = index;
                while (index < text.length() && digit(text.charAt(index)) && index < start + 2
                    && !(index == start && text.charAt(index) == '0')) {
                    index++;
                }
                if (index == start) {
                    return new int[] {index};
                }
                if (index < text.length() && digit(text.charAt(index))) {
                    return new int[] {index};
                }
                numbers.add(Integer.parseInt(text.substring(start, index)));
                starts.add(start);
                boolean colon = index < text.length() && text.charAt(index) == ':';
                int fault = look(book, numbers, colon);
                if (fault >= 0) {
                    return new int[] {starts.get(fault)};
                }
                if (numbers.size() == 2) {
                    first = find(book, numbers.get(0), numbers.get(1));
                }
                boolean over = index == text.length();
                if (over) {
                    if (numbers.size() == 1) {
                        return new int[] {index};
                    }
                    int last = first;
                    if (numbers.size() == 3) {
                        last = find(book, numbers.get(0), numbers.get(2));
                    }
                    if (numbers.size() == 4) {
                        last = find(book, numbers.get(2), numbers.get(3));
                    }
                    return new int[] {first, last};
                }
                // The fourth number is the last one, and nothing may stand behind it.
                if (text.charAt(index) != ":-: ".charAt(numbers.size() - 1) || numbers.size() == 4) {
                    return new int[] {index};
                }
                index++;
            }
        }

        /** Which of the numbers tells what is not there, or -1; only the last one is new. */
        private int look(int book, List<Integer> numbers, boolean colon) {
            int last = numbers.get(numbers.size() - 1);
            switch (numbers.size()) {
                case 1:
                    return last > chapters(book) ? 0 : -1;
                case 2:
                    return find(book, numbers.get(0), last) < 0 ? 1 : -1;
                case 3:
                    if (colon) {
                        return last > chapters(book) || last < numbers.get(0) ? 2 : -1;
                    }
                    return find(book, numbers.get(0), last) < 0 || last < numbers.get(1) ? 2 : -1;
                default:
                    if (find(book, numbers.get(2), last) < 0) {
                        return 3;
                    }
                    return numbers.get(2).equals(numbers.get(0)) && last < numbers.get(1) ? 3 : -1;
            }
        }

        int refer(int book, int what) {
            if (noBook(book)) {
                return -1;
            }
            if (what < 0 || what > 6) {
                return -2;
            }
            int[] span = reference(book);
            if (span.length == 1) {
                return -100 - span[0];
            }
            List<Verse> own = state.books.get(book);
            List<Verse> others = state.books.get(1 - book);
            List<Verse> meant = own.subList(span[0], span[1] + 1);
            List<Verse> found = new ArrayList<>();
            int groups = 0;
            for (List<Verse> group : state.groups) {
                boolean has = false;
                for (Verse verse : meant) {
                    has |= group.contains(verse);
                }
                if (has) {
                    groups++;
                    found.addAll(group);
                }
            }
            List<Verse> beside = new ArrayList<>(others);
            beside.retainAll(found);
            List<Verse> more = new ArrayList<>(own);
            more.retainAll(found);
            more.removeAll(new ArrayList<>(meant));
            switch (what) {
                case 0:
                    return span[0];
                case 1:
                    return span[1];
                case 2:
                    return beside.isEmpty() ? -5 : others.indexOf(beside.get(0));
                case 3:
                    return beside.isEmpty() ? -5 : others.indexOf(beside.get(beside.size() - 1));
                case 4:
                    return groups;
                case 5:
                    return beside.size();
                default:
                    return more.isEmpty() ? 1 : 0;
            }
        }

        int beside(int book, int verse, int what) {
            if (noVerse(book, verse)) {
                return -1;
            }
            if (what < 0 || what > 2) {
                return -2;
            }
            int group = groupOf(state.books.get(book).get(verse));
            List<Verse> others = side(group, 1 - book);
            if (what == 0) {
                return group;
            }
            if (others.isEmpty()) {
                return -5;
            }
            return state.books.get(1 - book).indexOf(others.get(what == 1 ? 0 : others.size() - 1));
        }

        int setWidth(int book, int columns) {
            if (noBook(book)) {
                return -1;
            }
            if (columns < 10 || columns > 200) {
                return -2;
            }
            int previous = width[book];
            width[book] = columns;
            return previous;
        }

        int setHeights(int page, int lines) {
            if (page < 5 || page > 200 || lines < 0 || lines > 5) {
                return -2;
            }
            int previous = pageHeight;
            pageHeight = page;
            heading = lines;
            return previous;
        }

        private int lines(int book, Verse verse) {
            int lines = 0;
            for (int set = 0; set < verse.letters; set += width[book]) {
                lines++;
            }
            return lines;
        }

        private int needs(int group, int book) {
            int sum = 0;
            for (Verse verse : side(group, book)) {
                int index = state.books.get(book).indexOf(verse);
                sum += lines(book, verse) + (numberOf(book, index) == 1 ? heading : 0);
            }
            return sum;
        }

        private int height(int group) {
            return Math.max(needs(group, 0), needs(group, 1));
        }

        private int heights(List<Integer> groups) {
            int sum = 0;
            for (int group : groups) {
                sum += height(group);
            }
            return sum;
        }

        private int notes(int group) {
            int sum = 0;
            for (Verse verse : state.groups.get(group)) {
                sum += verse.note;
            }
            return sum;
        }

        private int noteLines(List<Integer> groups) {
            int sum = 0;
            for (int group : groups) {
                sum += notes(group);
            }
            return sum > 0 ? sum + 1 : 0;
        }

        private boolean holdsMore(List<Integer> groups) {
            return heights(groups) + noteLines(groups) > pageHeight;
        }

        private List<List<Integer>> pages() {
            List<List<Integer>> pages = new ArrayList<>();
            List<Integer> page = new ArrayList<>();
            for (int group = 0; group < state.groups.size(); group++) {
                List<Integer> tried = new ArrayList<>(page);
                tried.add(group);
                if (pages.isEmpty() || holdsMore(tried)) {
                    page = new ArrayList<>(List.of(group));
                    pages.add(page);
                } else {
                    page.add(group);
                }
            }
            return pages;
        }

        int page(int page, int what) {
            if (page < 0 || what < 0 || what > 4) {
                return -2;
            }
            if (page >= pages().size()) {
                return -5;
            }
            List<Integer> groups = pages().get(page);
            switch (what) {
                case 0:
                    return groups.get(0);
                case 1:
                    return groups.get(groups.size() - 1);
                case 2:
                    return heights(groups);
                case 3:
                    return noteLines(groups);
                default:
                    return holdsMore(groups) ? 1 : 0;
            }
        }

        int chapter(int book, int chapter, int what) {
            if (noBook(book) || chapter < 1 || chapter > chapters(book)) {
                return -1;
            }
            if (what < 0 || what > 2) {
                return -2;
            }
            int size = 0;
            int letters = 0;
            for (Verse verse : state.books.get(book)) {
                size += verse.chapter == chapter ? 1 : 0;
                letters += verse.chapter == chapter ? verse.letters : 0;
            }
            return what == 0 ? find(book, chapter, 1) : what == 1 ? size : letters;
        }

        int verse(int book, int verse, int what) {
            if (noVerse(book, verse)) {
                return -1;
            }
            if (what < 0 || what > 4) {
                return -2;
            }
            Verse asked = state.books.get(book).get(verse);
            int[] properties = {asked.chapter, numberOf(book, verse), asked.letters, asked.note, lines(book, asked)};
            return properties[what];
        }

        private int kind(int group) {
            int left = side(group, 0).size();
            int right = side(group, 1).size();
            if (left == 1 && right == 1) {
                return 0;
            }
            if (left > 0 && right > 0) {
                return 3;
            }
            return left > 0 ? 1 : 2;
        }

        int group(int group, int what) {
            if (noGroup(group)) {
                return -1;
            }
            if (what < 0 || what > 8) {
                return -2;
            }
            if (what == 0) {
                return kind(group);
            }
            if (what < 5) {
                int book = what < 3 ? 0 : 1;
                List<Verse> side = side(group, book);
                if (what == 2 || what == 4) {
                    return side.size();
                }
                return side.isEmpty() ? -5 : state.books.get(book).indexOf(side.get(0));
            }
            if (what == 5) {
                return height(group);
            }
            if (what == 8) {
                return notes(group);
            }
            List<List<Integer>> pages = pages();
            int page = 0;
            while (!pages.get(page).contains(group)) {
                page++;
            }
            if (what == 6) {
                return page;
            }
            return heights(pages.get(page).subList(0, pages.get(page).indexOf(group)));
        }

        int count(int what) {
            if (what < 0 || what > 11) {
                return -2;
            }
            int sum = 0;
            for (int i = 0; i < state.groups.size(); i++) {
                if (what == 10) {
                    sum += Math.abs(needs(i, 0) - needs(i, 1));
                } else if (kind(i) == what - 5) {
                    sum++;
                }
            }
            switch (what) {
                case 0: case 1:
                    return chapters(what);
                case 2: case 3:
                    return state.books.get(what - 2).size();
                case 4:
                    return state.groups.size();
                case 9:
                    return pages().size();
                case 11:
                    return history.size();
                default:
                    return sum;
            }
        }
    }
}
