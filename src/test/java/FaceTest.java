import java.io.IOException;
import java.lang.reflect.Constructor;
import java.lang.reflect.Field;
import java.lang.reflect.Method;
import java.lang.reflect.Modifier;
import java.nio.file.Files;
import java.nio.file.Path;
import java.util.Set;
import java.util.TreeSet;
import java.util.regex.Matcher;
import java.util.regex.Pattern;

/** The public face: its members and no others. Promise 1: a new object. */
public final class FaceTest {
    private static final Pattern METHOD = Pattern.compile("(?:public )?(int|boolean) (\\w+)\\(([^)]*)\\)");

    public static void main(String[] args) throws IOException {
        String shared = System.getProperty("ownchair.shared", "../shared");
        String document = Files.readString(Path.of(shared, "DOC.md"));
        Set<String> face = face(document);
        members(face);
        promises(document, face);
        newObject();
        Check.finish();
    }

    /** A method by what it answers, its name and what it is given. */
    private static String told(Matcher method) {
        return method.group(1) + " " + method.group(2) + method.group(3).replaceAll("(?:^|, )(\\w+) \\w+", " $1");
    }

    /** The document's own block of code. */
    private static Set<String> face(String document) {
        int from = document.indexOf("```java");
        String block = document.substring(from, document.indexOf("```", from + 7));
        Check.due("a public final class", block.contains("public final class OwnChair {"), true);
        Check.due("its constant", block.contains("public static final int NONE = -1;"), true);
        Check.due("its constructor", block.contains("public OwnChair();"), true);
        Set<String> methods = new TreeSet<>();
        Matcher method = METHOD.matcher(block);
        while (method.find()) {
            methods.add(told(method));
        }
        Check.due("methods", methods.size(), 29);
        Check.due("members in all", block.split("public ", -1).length - 1, 29 + 3);
        return methods;
    }

    /** Promise 1 is the constructor's, each of the others one method's. */
    private static void promises(String document, Set<String> face) {
        Set<String> promised = new TreeSet<>();
        Matcher promise = Pattern.compile("## Promise (\\d+): [^`]*`([^`]*)`").matcher(document);
        while (promise.find()) {
            Matcher method = METHOD.matcher(promise.group(2));
            if (method.matches()) {
                promised.add(told(method));
            } else {
                Check.due("promise 1 is " + promise.group(2), Integer.parseInt(promise.group(1)), 1);
            }
        }
        Check.due("each method has a promise: " + promised, promised.equals(face), true);
    }

    private static void members(Set<String> face) {
        Set<String> methods = new TreeSet<>();
        for (Method method : OwnChair.class.getDeclaredMethods()) {
            if (!Modifier.isPrivate(method.getModifiers())) {
                StringBuilder told = new StringBuilder(method.getReturnType().getName()).append(' ')
                    .append(method.getName());
                for (Class<?> parameter : method.getParameterTypes()) {
                    told.append(' ').append(parameter.getName());
                }
                Check.due("public " + told, Modifier.isPublic(method.getModifiers()), true);
                methods.add(told.toString());
            }
        }
        Check.due("the methods " + methods, methods.equals(face), true);
        int fields = 0;
        for (Field field : OwnChair.class.getDeclaredFields()) {
            fields += Modifier.isPrivate(field.getModifiers()) ? 0 : 1;
        }
        Check.due("fields that are not private", fields, 1);
        Constructor<?>[] constructors = OwnChair.class.getDeclaredConstructors();
        Check.due("constructors", constructors.length, 1);
        Check.due("its parameters", constructors[0].getParameterCount(), 0);
        Check.due("final", Modifier.isFinal(OwnChair.class.getModifiers()), true);
        Check.due("NONE", OwnChair.NONE, -1);
    }

    private static void newObject() {
        OwnChair x = new OwnChair();
        int[] has = {0, 0, 0, -1, 0, 0, 0, 0, 0, 0, 1, -1};
        for (int what = 0; what < has.length; what++) {
            Check.due("new has(" + what + ")", x.has(what), has[what]);
        }
        for (int what = 0; what < 6; what++) {
            Check.due("new status(" + what + ")", x.status(what), 0);
            Check.due("new room(0, " + what + ")", x.room(0, what), -1);
        }
        for (int what = 0; what < 11; what++) {
            Check.due("new person(0, " + what + ")", x.person(0, what), -1);
        }
        Check.due("new fault(0)", x.fault(0), 0);
        Check.due("new fault(1)", x.fault(1), -1);
        Check.due("new octet(0)", x.octet(0), -1);
        Check.due("new kept(0, 0)", x.kept(0, 0), -1);
        Check.due("new along(0)", x.along(0), -1);
        Check.due("new where(0, 0)", x.where(0, 0), -1);
        Check.due("new way(0, 0)", x.way(0, 0), -1);
        Check.due("new letter(0, 0, 0)", x.letter(0, 0, 0), -1);
        Check.due("new fits(0, 0)", x.fits(0, 0), -1);
        Check.due("new takes(0, 0, -1)", x.takes(0, 0, -1), -1);
        Check.due("new route(0, 0, 0, -1)", x.route(0, 0, 0, -1), -1);
        Check.due("new bearer(0, 0, -1)", x.bearer(0, 0, -1), -1);
        Check.due("new seated(0, 0)", x.seated(0, 0), -1);
        Check.due("new undo()", x.undo(), false);
        Check.due("new image()", x.image(), 1);
        Check.due("its one byte", x.octet(0), 113);
        Check.due("an empty image on nobody", Check.on(x, 113), true);
        Check.due("an empty town", Check.town(x, ""), 0);
        Check.due("a town of blanks", Check.town(x, " \n "), 0);
    }
}
