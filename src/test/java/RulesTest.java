import java.io.IOException;
import java.lang.reflect.Constructor;
import java.lang.reflect.Field;
import java.lang.reflect.Method;
import java.lang.reflect.Modifier;
import java.nio.charset.StandardCharsets;
import java.nio.file.Files;
import java.nio.file.Path;
import java.util.Set;
import java.util.TreeSet;
import java.util.regex.Matcher;
import java.util.regex.Pattern;

/** The public face of the document, and the rules of LANGUAGE.md that can be looked up. */
public final class RulesTest {
    private static final Set<String> FACE = Set.of("addChapter(int,int,int)", "setVerse(int,int,int,int)",
        "joinVerses(int,int)", "splitVerse(int,int,int)", "link(int)", "part(int,int,int)", "readMap()", "pairAll()",
        "exchange()", "undo()", "type(char)", "clearText()", "refer(int,int)", "beside(int,int,int)",
        "setWidth(int,int)", "setHeights(int,int)", "page(int,int)", "chapter(int,int,int)", "verse(int,int,int)",
        "group(int,int)", "count(int)");
    private static final Set<String> CONSTANTS = Set.of("UNKNOWN", "BAD_VALUE", "FULL", "NOT_POSSIBLE", "NONE");

    private static int wrong = 0;

    public static void main(String[] args) throws IOException {
        face();
        insides();
        words();
        lengths();
        System.out.println(wrong + " rules broken");
        if (wrong != 0) {
            System.exit(1);
        }
    }

    private static void hold(boolean holds, String rule) {
        if (!holds) {
            wrong++;
            System.out.println("broken: " + rule);
        }
    }

    private static String signature(Method method) {
        StringBuilder signature = new StringBuilder(method.getName()).append('(');
        for (Class<?> type : method.getParameterTypes()) {
            signature.append(signature.charAt(signature.length() - 1) == '(' ? "" : ",").append(type.getName());
        }
        return signature.append(')').toString();
    }

    private static void face() {
        Class<?> face = VerseColumns.class;
        hold(Modifier.isPublic(face.getModifiers()) && Modifier.isFinal(face.getModifiers()), "public final class");
        Set<String> seen = new TreeSet<>();
        Set<String> names = new TreeSet<>();
        for (String signature : FACE) {
            names.add(signature.substring(0, signature.indexOf('(')));
        }
        for (Method method : face.getDeclaredMethods()) {
            if (Modifier.isPrivate(method.getModifiers())) {
                hold(!names.contains(method.getName()), "private " + method.getName() + " bears a public name");
            } else {
                seen.add(signature(method));
                hold(method.getReturnType() == int.class, method.getName() + " answers an int");
                hold(method.getModifiers() == Modifier.PUBLIC, method.getName() + " is public alone");
            }
        }
        hold(seen.equals(FACE), "the methods of the face: " + seen);
        Set<String> constants = new TreeSet<>();
        for (Field field : face.getDeclaredFields()) {
            if (!Modifier.isPrivate(field.getModifiers())) {
                constants.add(field.getName());
                hold(field.getModifiers() == (Modifier.PUBLIC | Modifier.STATIC | Modifier.FINAL), field.getName());
            }
        }
        hold(constants.equals(CONSTANTS), "the constants of the face: " + constants);
        Constructor<?>[] constructors = face.getDeclaredConstructors();
        hold(constructors.length == 1 && constructors[0].getParameterCount() == 0
            && Modifier.isPublic(constructors[0].getModifiers()), "one public constructor");
    }

    private static void insides() {
        Class<?>[] inside = VerseColumns.class.getDeclaredClasses();
        hold(inside.length + 1 <= 12, "at most some twelve classes");
        for (Class<?> type : inside) {
            hold(Modifier.isStatic(type.getModifiers()) && !Modifier.isPublic(type.getModifiers())
                && !Modifier.isProtected(type.getModifiers()), type.getName() + " is static and not public");
            look(type);
        }
        look(VerseColumns.class);
    }

    private static void look(Class<?> type) {
        int fields = 0;
        for (Field field : type.getDeclaredFields()) {
            boolean still = Modifier.isStatic(field.getModifiers());
            hold(!still || Modifier.isFinal(field.getModifiers()), field + " is final");
            fields += still ? 0 : 1;
        }
        hold(fields <= 20, type.getName() + " has at most some twenty fields");
        for (Method method : type.getDeclaredMethods()) {
            hold(method.getParameterCount() <= 7, method + " takes at most seven parameters");
        }
    }

    private static String source() throws IOException {
        String source = Files.readString(Path.of("src/main/java/VerseColumns.java"), StandardCharsets.UTF_8);
        return source.replaceAll("(?s)/\\*.*?\\*/", "").replaceAll("//[^\n]*", "");
    }

    private static void words() throws IOException {
        String source = source();
        for (char sign : source.toCharArray()) {
            hold(sign < 128, "only plain signs in the source");
        }
        for (String word : new String[] {"throw", "throws", "try", "catch", "finally", "synchronized", "assert",
            "import", "package", "protected", "volatile", "transient", "native", "instanceof", "Object", "equals",
            "hashCode", "toString", "String", "System.out", "Random", "Thread", "null\\s*\\)\\s*\\.", "->", "::"}) {
            Matcher found = Pattern.compile("(?<![A-Za-z])" + word + "(?![A-Za-z])").matcher(source);
            hold(!found.find(), "no " + word);
        }
        // The only arrays are made in fields, so that no call makes anything.
        for (String line : source.split("\n")) {
            boolean makes = line.contains("new ");
            boolean field = line.startsWith("        private ") && line.contains(" = new ");
            boolean constructor = line.matches("        [a-zA-Z]+ = new [A-Za-z]+\\(\\);")
                || line.contains("rows[i] = new State()");
            hold(!makes || field || constructor, "nothing is made outside of constructors: " + line.trim());
        }
    }

    private static void lengths() throws IOException {
        String source = source();
        Matcher heads = Pattern.compile("(?m)^( +)(?:public |private |static )*\\w+ (\\w+)\\([^)]*\\) \\{$").matcher(source);
        int found = 0;
        while (heads.find()) {
            found++;
            int end = source.indexOf("\n" + heads.group(1) + "}", heads.end());
            String body = source.substring(heads.end(), end);
            hold(body.split("\n").length <= 60, heads.group(2) + " is short");
        }
        hold(found > 80, "the methods are found: " + found);
    }
}
