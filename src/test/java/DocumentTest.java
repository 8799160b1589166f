import java.io.IOException;
import java.lang.reflect.Field;
import java.lang.reflect.InvocationTargetException;
import java.lang.reflect.Method;
import java.nio.charset.StandardCharsets;
import java.nio.file.Files;
import java.nio.file.Path;
import java.util.ArrayList;
import java.util.List;
import java.util.regex.Matcher;
import java.util.regex.Pattern;

/**
 * The document read by the test itself, from its first line: the face, the constants, and for each promise the ranges of
 * its arguments, the order of these errors, and whether it is an act; then what README.md says of the same.
 */
public final class DocumentTest extends Checks {
    private static final int PROMISES = 22;
    private static final String NUMBER = "(-?\\d+)";

    /** An argument of a call: the values that are allowed, and the error for all others. */
    private record Argument(String name, int least, int greatest, int error) {
        int[] tried() {
            return new int[] {least, greatest, least == MIN ? least : least - 1, greatest == MAX ? MAX : greatest + 1, MIN, MAX};
        }

        boolean allows(int value) {
            return value >= least && value <= greatest;
        }
    }

    public static void main(String[] args) throws IOException, ReflectiveOperationException {
        String document = Files.readString(Path.of("../shared/DOC.md"), StandardCharsets.UTF_8);
        String readme = Files.readString(Path.of("README.md"), StandardCharsets.UTF_8);
        List<String> face = face(document);
        constants(document, readme);
        due("promises", face.size() + 1, PROMISES);
        for (int i = 0; i < face.size(); i++) {
            String section = section(document, i + 2);
            about = "promise " + (i + 2) + " of the document";
            due("its section has " + face.get(i), section.contains("`int " + face.get(i) + "`") ? 1 : 0, 1);
            due("README.md has a row for it", readme.contains("| `" + nameOf(face.get(i)) + "(") ? 1 : 0, 1);
            arguments(face.get(i), section);
            act(nameOf(face.get(i)), section.contains("This is an act."));
        }
        exampleOfReadme(readme);
        finish();
    }

    private static String nameOf(String signature) {
        return signature.substring(0, signature.indexOf('('));
    }

    /** The signatures of the calls, in the order of the document; the class has them all, and no others. */
    private static List<String> face(String document) {
        about = "the face in the document";
        String block = document.substring(document.indexOf("```java"), document.indexOf("```\n", document.indexOf("```java")));
        List<String> face = new ArrayList<>();
        Matcher calls = Pattern.compile("public int (\\w+\\([^)]*\\));").matcher(block);
        while (calls.find()) {
            face.add(calls.group(1));
        }
        List<String> want = new ArrayList<>();
        for (String signature : face) {
            want.add(signature.replaceAll(" \\w+(?=[,)])", ""));
        }
        List<String> got = new ArrayList<>();
        for (Method method : VerseColumns.class.getMethods()) {
            if (method.getDeclaringClass() == VerseColumns.class) {
                got.add(method.toString().replace("public int VerseColumns.", "").replace(",", ", "));
            }
        }
        got.sort(null);
        want.sort(null);
        same("reading the face", got, want);
        return face;
    }

    private static void constants(String document, String readme) throws ReflectiveOperationException {
        about = "the constants in the document";
        Matcher lines = Pattern.compile("public static final int (\\w+) = " + NUMBER + ";").matcher(document);
        int found = 0;
        while (lines.find()) {
            found++;
            String name = lines.group(1);
            due(name, VerseColumns.class.getField(name).getInt(null), Integer.parseInt(lines.group(2)));
            String meaning = document.substring(document.indexOf("`" + name + " = " + lines.group(2) + "`: ")).split("`: |\n")[1];
            String row = "| `" + name + "` | " + lines.group(2) + " | " + meaning;
            due("README.md says what " + name + " means", readme.contains(row) ? 1 : 0, 1);
        }
        int publicOnes = 0;
        for (Field field : VerseColumns.class.getFields()) {
            publicOnes += field.getDeclaringClass() == VerseColumns.class ? 1 : 0;
        }
        due("public constants", publicOnes, found);
    }

    private static String section(String document, int promise) {
        int from = document.indexOf("## Promise " + promise + ": ");
        int end = document.indexOf("\n## ", from);
        return document.substring(from, end);
    }

    // ---- arguments

    private static void arguments(String signature, String section) throws ReflectiveOperationException {
        String inside = signature.substring(signature.indexOf('(') + 1, signature.length() - 1);
        if (inside.isEmpty() || inside.equals("char character")) {
            return;
        }
        List<Argument> arguments = new ArrayList<>();
        Class<?>[] types = new Class<?>[inside.split(", ").length];
        for (String argument : inside.split(", ")) {
            types[arguments.size()] = int.class;
            arguments.add(argument(argument.substring("int ".length()), section));
        }
        Method method = VerseColumns.class.getMethod(nameOf(signature), types);
        tryAll(method, arguments, new Object[types.length], 0);
    }

    private static Argument argument(String name, String section) {
        Matcher line = Pattern.compile("- `" + name + "`: (.*)").matcher(section);
        if (!line.find()) {
            throw new IllegalStateException("the document doesn't say what " + name + " is");
        }
        String text = line.group(1);
        Matcher range = Pattern.compile(NUMBER + " to " + NUMBER).matcher(text);
        if (name.equals("what")) {
            return new Argument(name, 0, lastChoice(text), BAD_VALUE);
        }
        if (text.equals("0 or 1")) {
            return new Argument(name, 0, 1, UNKNOWN);
        }
        if (text.equals("0 or more")) {
            return new Argument(name, 0, MAX, BAD_VALUE);
        }
        if (range.find()) {
            return new Argument(name, Integer.parseInt(range.group(1)), Integer.parseInt(range.group(2)), BAD_VALUE);
        }
        VerseColumns x = begun();
        switch (name) {
            case "chapter":
                return new Argument(name, 1, x.count(0), UNKNOWN);
            case "verse":
                return new Argument(name, 0, x.count(2) - 1, UNKNOWN);
            default:
                return new Argument(name, 0, x.count(4) - 1, UNKNOWN);
        }
    }

    private static int lastChoice(String text) {
        Matcher choices = Pattern.compile(NUMBER + " for ").matcher(text);
        int last = 0;
        while (choices.find()) {
            last = Math.max(last, Integer.parseInt(choices.group(1)));
        }
        return last;
    }

    /** Both books have as many chapters and verses, so that the ranges are the same in both; the first group can be parted. */
    private static VerseColumns begun() {
        VerseColumns x = books(3, 3);
        x.link(0);
        return put(x, "1:1-2");
    }

    private static void tryAll(Method method, List<Argument> arguments, Object[] values, int from)
            throws ReflectiveOperationException {
        if (from == values.length) {
            try {
                tryOne(method, arguments, values);
            } catch (InvocationTargetException e) {
                due(method.getName() + List.of(values) + " threw " + e.getCause(), 1, 0);
            }
            return;
        }
        for (int value : arguments.get(from).tried()) {
            values[from] = value;
            tryAll(method, arguments, values, from + 1);
        }
    }

    private static void tryOne(Method method, List<Argument> arguments, Object[] values) throws ReflectiveOperationException {
        int want = 0;
        for (int i = 0; i < values.length; i++) {
            Argument argument = arguments.get(i);
            if (!argument.allows((Integer) values[i]) && want != UNKNOWN) {
                want = argument.error();
            }
        }
        int got = (Integer) method.invoke(begun(), values);
        String call = method.getName() + List.of(values);
        if (want != 0) {
            due(call, got, want);
        } else {
            due(call + " answered " + got + ", an error of an argument", got == UNKNOWN || got == BAD_VALUE ? 1 : 0, 0);
        }
    }

    // ---- acts

    private static void act(String name, boolean isAct) {
        VerseColumns x = begun();
        put(x, name.equals("readMap") ? "3=" : "1:1-2");
        int before = x.count(11);
        due(name + " in its range", ask(x, name) >= 0 ? 1 : 0, 1);
        due("states that " + name + " adds", x.count(11) - before, isAct ? 1 : name.equals("undo") ? -1 : 0);
    }

    private static int ask(VerseColumns x, String name) {
        switch (name) {
            case "addChapter":
                return x.addChapter(0, 1, 1);
            case "setVerse":
                return x.setVerse(0, 0, 1, 1);
            case "joinVerses":
                return x.joinVerses(0, 0);
            case "splitVerse":
                return x.splitVerse(0, 0, 1);
            case "link":
                return x.link(0);
            case "part":
                return x.part(0, 1, 0);
            case "readMap":
                return x.readMap();
            case "pairAll":
                return x.pairAll();
            case "exchange":
                return x.exchange();
            case "undo":
                return x.undo();
            case "type":
                return x.type('x');
            case "clearText":
                return x.clearText();
            default:
                return askOnly(x, name);
        }
    }

    private static int askOnly(VerseColumns x, String name) {
        switch (name) {
            case "refer":
                return x.refer(0, 0);
            case "beside":
                return x.beside(0, 0, 0);
            case "setWidth":
                return x.setWidth(0, 10);
            case "setHeights":
                return x.setHeights(5, 0);
            case "page":
                return x.page(0, 0);
            case "chapter":
                return x.chapter(0, 1, 0);
            case "verse":
                return x.verse(0, 0, 0);
            case "group":
                return x.group(0, 0);
            default:
                return x.count(0);
        }
    }

    // ---- README.md

    /** Makes each call of the example, and compares the answer that is told behind it. */
    private static void exampleOfReadme(String readme) throws ReflectiveOperationException {
        about = "the example in README.md";
        VerseColumns x = new VerseColumns();
        Matcher lines = Pattern.compile("(?m)^x\\.(\\w+)\\((.*)\\); +// " + NUMBER + "(:|$)").matcher(readme);
        int found = 0;
        while (lines.find()) {
            found++;
            due(lines.group(1) + "(" + lines.group(2) + ")", told(x, lines.group(1), lines.group(2)),
                Integer.parseInt(lines.group(3)));
        }
        due("lines of the example", found, readme.split("(?m)^x\\.", -1).length - 1);
    }

    private static int told(VerseColumns x, String name, String inside) throws ReflectiveOperationException {
        if (name.equals("type")) {
            return x.type(inside.charAt(1));
        }
        String[] told = inside.isEmpty() ? new String[0] : inside.split(", ");
        Class<?>[] types = new Class<?>[told.length];
        Object[] values = new Object[told.length];
        for (int i = 0; i < told.length; i++) {
            types[i] = int.class;
            values[i] = Integer.parseInt(told[i]);
        }
        return (Integer) VerseColumns.class.getMethod(name, types).invoke(x, values);
    }
}
