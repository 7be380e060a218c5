import java.lang.reflect.Array;
import java.lang.reflect.Field;
import java.lang.reflect.Modifier;
import java.nio.file.Files;
import java.nio.file.Path;
import java.util.ArrayList;
import java.util.IdentityHashMap;
import java.util.List;
import java.util.Set;
import java.util.TreeSet;
import java.util.regex.Matcher;
import java.util.regex.Pattern;

/** What can be seen of ../shared/LANGUAGE.md in the program's text: words, library, names, lengths. */
public final class LanguageTest {
    private static final Pattern METHOD = Pattern.compile(
        "^ +(?:(?:public|private|static|final) )*(?:int|long|boolean|void|char|String|[A-Z]\\w*)(?:\\[\\])* (\\w+)\\(([^)]*)\\) \\{$",
        Pattern.MULTILINE);
    private static final Set<String> LIBRARY = Set.of("Math.min", "Math.max", "Math.floorDiv", "Math.floorMod",
        "Integer.bitCount", "System.arraycopy", "Arrays.fill", "Arrays.copyOf");

    public static void main(String[] args) throws Exception {
        String root = System.getProperty("ownchair.root", ".");
        String text = Files.readString(Path.of(root, "src", "main", "java", "OwnChair.java"));
        String code = withoutComments(text);
        words(code);
        library(code);
        methods(code);
        fields(code);
        madeOnce(code);
        room();
        Check.due("signs above 127", text.chars().filter(c -> c > 127).count(), 0);
        Check.due("classes", count(code, "\\bclass \\w+"), 12);
        Check.finish();
    }

    private static String withoutComments(String text) {
        return text.replaceAll("(?s)/\\*.*?\\*/", "").replaceAll("//[^\n]*", "");
    }

    private static int count(String code, String pattern) {
        Matcher matcher = Pattern.compile(pattern).matcher(code);
        int many = 0;
        while (matcher.find()) {
            many++;
        }
        return many;
    }

    private static void words(String code) {
        String[] forbidden = {"throw", "throws", "try", "catch", "synchronized", "assert", "instanceof", "package",
            "protected", "volatile", "native", "strictfp", "transient", "double", "float", "Object", "Thread", "Random",
            "Exception", "toString", "equals", "hashCode"};
        for (String word : forbidden) {
            Check.due("the word " + word, count(code, "\\b" + word + "\\b"), 0);
        }
        Check.due("lambdas", count(code, "->"), 0);
        Check.due("method references", count(code, "::"), 0);
        Check.due("static blocks", count(code, "static \\{"), 0);
        Check.due("imports", count(code, "\\bimport\\b"), 1);
        Check.due("texts", count(code, "\""), 0);
        Check.due("while loops that have no counter", count(code, "while \\((?!place < length)"), 0);
        Check.due("loops without an end", count(code, "for \\([^;]*; *;"), 0);
        Check.due("do loops", count(code, "\\bdo \\{"), 0);
    }

    private static void library(String code) {
        Matcher matcher = Pattern.compile("\\b(Math|Integer|Long|System|Arrays|String|Character)\\.\\w+").matcher(code);
        Set<String> found = new TreeSet<>();
        while (matcher.find()) {
            found.add(matcher.group());
        }
        Check.due("the library: " + found, LIBRARY.containsAll(found), true);
    }

    private static void methods(String code) {
        Set<String> open = new TreeSet<>();
        List<String> closed = new ArrayList<>();
        Matcher matcher = METHOD.matcher(code);
        int found = 0;
        while (matcher.find()) {
            found++;
            String name = matcher.group(1);
            (matcher.group().contains("public ") ? open : closed).add(name);
            String parameters = matcher.group(2);
            Check.due("parameters of " + name, parameters.isEmpty() || parameters.split(",").length <= 7, true);
            Check.due("length of " + name, lines(code, matcher.end()) <= 60, true);
        }
        Check.due("methods were found", found > 100, true);
        Check.due("public methods", open.size(), 29);
        for (String name : closed) {
            Check.due("no other method is named " + name, open.contains(name), false);
        }
    }

    /** Lines from a method's brace to the one that closes it. */
    private static int lines(String code, int from) {
        int depth = 1;
        int lines = 1;
        for (int i = from; i < code.length() && depth > 0; i++) {
            char sign = code.charAt(i);
            depth += sign == '{' ? 1 : sign == '}' ? -1 : 0;
            lines += sign == '\n' ? 1 : 0;
        }
        return lines;
    }

    private static void fields(String code) {
        Matcher matcher = Pattern.compile("^ +(?:private )?static (?!final )[\\w\\[\\]]+ \\w+ *[=;]", Pattern.MULTILINE)
            .matcher(code);
        Check.due("static fields that change", matcher.find(), false);
        countFields(OwnChair.class);
        for (Class<?> inside : OwnChair.class.getDeclaredClasses()) {
            Check.due("static: " + inside.getName(), Modifier.isStatic(inside.getModifiers()), true);
            countFields(inside);
        }
        Check.due("static arrays", count(code, "static final \\w+\\[\\]"), 0);
    }

    private static void countFields(Class<?> type) {
        int fields = 0;
        for (Field field : type.getDeclaredFields()) {
            fields += Modifier.isStatic(field.getModifiers()) ? 0 : 1;
        }
        Check.due("fields of " + type.getName() + ": " + fields, fields <= 20, true);
    }

    /** Objects and arrays are made by fields alone, so that no call makes any (but for a sum that outgrows its row). */
    private static void madeOnce(String code) {
        int inside = code.indexOf("static final class");
        Matcher made = Pattern.compile("(?m)^( *)(.*)\\bnew \\w").matcher(code);
        while (made.find()) {
            int indent = made.group(1).length();
            Check.due("made once: " + made.group(2), indent, made.start() < inside ? 4 : 8);
        }
        Check.due("copies", count(code, "copyOf\\("), 1);
    }

    /** 512 objects of a run must find room: 7.3 million elements, 600,000 objects. */
    private static void room() throws IllegalAccessException {
        int[] sizes = new int[2];
        measure(new OwnChair(), sizes, new IdentityHashMap<>());
        Check.due("objects of one: " + sizes[0], sizes[0] <= 100, true);
        Check.due("elements of one: " + sizes[1], sizes[1] <= 9000, true);
    }

    private static void measure(Object object, int[] sizes, IdentityHashMap<Object, Object> seen)
        throws IllegalAccessException {
        if (object == null || seen.put(object, object) != null) {
            return;
        }
        sizes[0]++;
        if (object.getClass().isArray()) {
            sizes[1] += Array.getLength(object);
            return;
        }
        for (Field field : object.getClass().getDeclaredFields()) {
            if (!Modifier.isStatic(field.getModifiers())) {
                sizes[1]++;
                field.setAccessible(true);
                if (!field.getType().isPrimitive()) {
                    measure(field.get(object), sizes, seen);
                }
            }
        }
    }
}
