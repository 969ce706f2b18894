import java.io.IOException;
import java.lang.reflect.Field;
import java.lang.reflect.Method;
import java.lang.reflect.Modifier;
import java.nio.file.Files;
import java.nio.file.Path;
import java.util.ArrayList;
import java.util.List;
import java.util.Set;
import java.util.TreeSet;
import java.util.regex.Matcher;
import java.util.regex.Pattern;

/** Those rules of LANGUAGE.md that can be seen from the class and from its words; not all of them can. */
public final class LanguageTest {
    private static final Expect EXPECT = new Expect();
    private static final String SOURCE = "src/main/java/ScrambledLine.java";
    private static final int MOST_PARAMETERS = 7, MOST_CLASSES = 12, MOST_FIELDS = 20, MOST_LINES = 60;

    public static void main(String[] args) throws IOException {
        String words = withoutComments(Files.readString(Path.of(SOURCE)));
        List<Class<?>> classes = new ArrayList<>();
        collect(ScrambledLine.class, classes);
        classesInside(classes);
        namesOfTheFace(classes);
        library(words);
        staticFields(classes);
        wordsThatAreRuledOut(words);
        sizes(classes, words);
        EXPECT.end();
    }

    private static String withoutComments(String text) {
        return text.replaceAll("(?s)/\\*.*?\\*/", "").replaceAll("//[^\n]*", "");
    }

    private static void collect(Class<?> outer, List<Class<?>> classes) {
        classes.add(outer);
        for (Class<?> inside : outer.getDeclaredClasses()) {
            collect(inside, classes);
        }
    }

    private static void classesInside(List<Class<?>> classes) {
        EXPECT.about("rule 1: the classes inside it, which are private or package-visible and static");
        for (Class<?> c : classes.subList(1, classes.size())) {
            int m = c.getModifiers();
            EXPECT.yes(c.getSimpleName() + " is static", Modifier.isStatic(m));
            EXPECT.no(c.getSimpleName() + " is to be seen", Modifier.isPublic(m) || Modifier.isProtected(m));
        }
    }

    private static void namesOfTheFace(List<Class<?>> classes) {
        EXPECT.about("rule 1: No private method bears the name of a public one.");
        Set<String> face = new TreeSet<>();
        for (Method m : ScrambledLine.class.getDeclaredMethods()) {
            if (Modifier.isPublic(m.getModifiers())) {
                face.add(m.getName());
            }
        }
        for (Class<?> c : classes) {
            for (Method m : c.getDeclaredMethods()) {
                boolean ofTheFace = c == ScrambledLine.class && Modifier.isPublic(m.getModifiers());
                EXPECT.no(c.getSimpleName() + "." + m.getName(), !ofTheFace && face.contains(m.getName()));
            }
        }
    }

    private static void library(String words) {
        EXPECT.about("rule 4: only what stands here");
        String arithmetic = "(?:compare|max|min|abs|bitCount|floorDiv|floorMod)\\b";
        String allowed = "System\\.arraycopy\\b|Arrays\\.(?:copyOf|copyOfRange|fill)\\b|(?:Math|Integer|Long)\\." + arithmetic;
        String calls = "\\b(?!" + allowed + ")(?:System|Arrays|Math|Integer|Long)\\.\\w+";
        EXPECT.same("imports", found(words, "import (?!java\\.util\\.(?:Arrays|ArrayList|List);)[^;]+").toString(), "[]");
        EXPECT.same("calls", found(words.replaceAll("import [^;]+;", ""), calls).toString(), "[]");
        EXPECT.same("a package", found(words, "\\bpackage\\b").toString(), "[]");
        EXPECT.same("names with dots", found(words, "(?<!import )\\bjavax?\\.\\w+\\.\\w+").toString(), "[]");
    }

    private static Set<String> found(String words, String pattern) {
        Set<String> all = new TreeSet<>();
        Matcher m = Pattern.compile(pattern).matcher(words);
        while (m.find()) {
            all.add(m.group());
        }
        return all;
    }

    private static void staticFields(List<Class<?>> classes) {
        EXPECT.about("rule 5: Static fields are final: constants .. arrays of int, long, char or byte");
        for (Class<?> c : classes) {
            for (Field f : c.getDeclaredFields()) {
                if (Modifier.isStatic(f.getModifiers())) {
                    String what = c.getSimpleName() + "." + f.getName();
                    EXPECT.yes(what + " is final", Modifier.isFinal(f.getModifiers()));
                    EXPECT.yes(what + " is int or int[]", f.getType() == int.class || f.getType() == int[].class);
                }
            }
        }
    }

    /** Some of these are fine where they are needed; this class needs none, so that no call can throw by them. */
    private static void wordsThatAreRuledOut(String words) {
        EXPECT.about("rules 2, 3, 5, 6, 7");
        String ruledOut = "\\b(?:throws?|try|catch|finally|synchronized|assert|instanceof|double|float|native|volatile"
                + "|transient|strictfp|Thread|Random|null)\\b|->|::|static\\s*\\{|@\\w+";
        EXPECT.same("words", found(words, ruledOut).toString(), "[]");
        EXPECT.same("divisors that are no constant", found(words, "[/%]=?\\s*(?![A-Z_]{2,}|Scrambler\\.SIZE|2\\b)\\S+").toString(),
                "[]");
    }

    private static void sizes(List<Class<?>> classes, String words) {
        EXPECT.about("rule 11");
        EXPECT.yes("classes: " + classes.size(), classes.size() <= MOST_CLASSES);
        for (Class<?> c : classes) {
            int fields = 0;
            for (Field f : c.getDeclaredFields()) {
                fields += Modifier.isStatic(f.getModifiers()) ? 0 : 1;
            }
            EXPECT.yes(c.getSimpleName() + ": fields: " + fields, fields <= MOST_FIELDS);
            for (Method m : c.getDeclaredMethods()) {
                EXPECT.yes(m.getName() + ": parameters", m.getParameterCount() <= MOST_PARAMETERS);
            }
        }
        EXPECT.yes("lines of the longest method: " + longestMethod(words), longestMethod(words) <= MOST_LINES);
    }

    /** A method begins with a line that opens a block behind parameters, and ends with the brace set in like it. */
    private static int longestMethod(String words) {
        Matcher m = Pattern.compile("(?m)^( {4}| {8})(?=[\\w\\[]).*\\) \\{\\n(?:.*\\n)*?\\1\\}").matcher(words);
        int longest = 0;
        int methods = 0;
        while (m.find()) {
            methods++;
            longest = Math.max(longest, m.group().split("\n").length);
        }
        EXPECT.yes("methods are found", methods > 13);
        return longest;
    }
}
