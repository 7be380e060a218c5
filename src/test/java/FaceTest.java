import java.lang.reflect.Constructor;
import java.lang.reflect.Field;
import java.lang.reflect.Method;
import java.lang.reflect.Modifier;
import java.util.Arrays;
import java.util.Set;
import java.util.TreeSet;

/** The public face: its members and no others. Promise 1: a new object. */
public final class FaceTest {
    private static final String[] FACE = {
        "int feed int int int int int", "boolean end int", "int town", "int fault int", "int has int",
        "int letter int int int", "int room int int", "int way int int", "int person int int", "int fits int int",
        "int takes int int int", "int go int int int", "int stay int int", "boolean mend int int", "int days int",
        "boolean undo", "boolean seed int", "int kept int int", "int route int int int int", "int bearer int int int",
        "int errand int", "int along int", "int seated int int", "int standing", "int where int int", "int image",
        "int octet int", "boolean on", "int status int"};

    public static void main(String[] args) {
        members();
        newObject();
        Check.finish();
    }

    private static void members() {
        Set<String> methods = new TreeSet<>();
        for (Method method : OwnChair.class.getDeclaredMethods()) {
            if (!Modifier.isPrivate(method.getModifiers())) {
                StringBuilder told = new StringBuilder(method.getReturnType().getName()).append(' ')
                    .append(method.getName());
                for (Class<?> parameter : method.getParameterTypes()) {
                    told.append(' ').append(parameter.getName());
                }
                Check.due("public " + told, Modifier.isPublic(method.getModifiers()), true);
                methods.add(told.toString());
            }
        }
        Check.due("the methods " + methods, methods.equals(new TreeSet<>(Arrays.asList(FACE))), true);
        int fields = 0;
        for (Field field : OwnChair.class.getDeclaredFields()) {
            fields += Modifier.isPrivate(field.getModifiers()) ? 0 : 1;
        }
        Check.due("fields that are not private", fields, 1);
        Constructor<?>[] constructors = OwnChair.class.getDeclaredConstructors();
        Check.due("constructors", constructors.length, 1);
        Check.due("its parameters", constructors[0].getParameterCount(), 0);
        Check.due("final", Modifier.isFinal(OwnChair.class.getModifiers()), true);
        Check.due("NONE", OwnChair.NONE, -1);
    }

    private static void newObject() {
        OwnChair x = new OwnChair();
        int[] has = {0, 0, 0, -1, 0, 0, 0, 0, 0, 0, 1, -1};
        for (int what = 0; what < has.length; what++) {
            Check.due("new has(" + what + ")", x.has(what), has[what]);
        }
        for (int what = 0; what < 6; what++) {
            Check.due("new status(" + what + ")", x.status(what), 0);
            Check.due("new room(0, " + what + ")", x.room(0, what), -1);
        }
        for (int what = 0; what < 11; what++) {
            Check.due("new person(0, " + what + ")", x.person(0, what), -1);
        }
        Check.due("new fault(0)", x.fault(0), 0);
        Check.due("new fault(1)", x.fault(1), -1);
        Check.due("new octet(0)", x.octet(0), -1);
        Check.due("new kept(0, 0)", x.kept(0, 0), -1);
        Check.due("new along(0)", x.along(0), -1);
        Check.due("new where(0, 0)", x.where(0, 0), -1);
        Check.due("new way(0, 0)", x.way(0, 0), -1);
        Check.due("new letter(0, 0, 0)", x.letter(0, 0, 0), -1);
        Check.due("new fits(0, 0)", x.fits(0, 0), -1);
        Check.due("new takes(0, 0, -1)", x.takes(0, 0, -1), -1);
        Check.due("new route(0, 0, 0, -1)", x.route(0, 0, 0, -1), -1);
        Check.due("new bearer(0, 0, -1)", x.bearer(0, 0, -1), -1);
        Check.due("new seated(0, 0)", x.seated(0, 0), -1);
        Check.due("new undo()", x.undo(), false);
        Check.due("new image()", x.image(), 1);
        Check.due("its one byte", x.octet(0), 113);
        Check.due("an empty image on nobody", Check.on(x, 113), true);
        Check.due("an empty town", Check.town(x, ""), 0);
        Check.due("a town of blanks", Check.town(x, " \n "), 0);
    }
}
