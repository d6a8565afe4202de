import java.lang.reflect.Constructor;
import java.lang.reflect.Field;
import java.lang.reflect.Method;
import java.lang.reflect.Modifier;
import java.util.Arrays;
import java.util.Set;
import java.util.TreeSet;

/** The public face is that of the document, and there is nothing else that is not private. */
public final class FaceTest {
    private static final String[] METHODS = {
        "int fencer() IllegalStateException",
        "int weapon(int) IndexOutOfBoundsException IllegalStateException",
        "boolean test(int,int,int) IndexOutOfBoundsException IllegalArgumentException IllegalStateException",
        "int fencers()",
        "int mark(int) IndexOutOfBoundsException",
        "int owner(int) IndexOutOfBoundsException",
        "int begin(int,int,int) IndexOutOfBoundsException IllegalStateException",
        "int change(int,int) IndexOutOfBoundsException IllegalStateException",
        "int allez() IllegalStateException",
        "int contact(int,boolean,int) IndexOutOfBoundsException IllegalArgumentException IllegalStateException",
        "int right(int,int) IllegalArgumentException IllegalStateException",
        "int halt() IllegalStateException",
        "int appeal(int,int) IndexOutOfBoundsException IllegalArgumentException IllegalStateException",
        "int piste()",
        "boolean isFencing()",
        "int weaponOf(int) IndexOutOfBoundsException",
        "int fencerOf(int,int) IndexOutOfBoundsException",
        "int score(int,int) IndexOutOfBoundsException",
        "int scoreAnew(int,int) IndexOutOfBoundsException",
        "int winner(int) IndexOutOfBoundsException",
        "int phrases(int) IndexOutOfBoundsException",
        "int touches(int,int) IndexOutOfBoundsException",
        "int appeals(int,int) IndexOutOfBoundsException",
        "int drawPools(int) IllegalArgumentException IllegalStateException",
        "int poolBouts()",
        "int won(int) IndexOutOfBoundsException",
        "int index(int) IndexOutOfBoundsException",
        "int rankedAt(int) IndexOutOfBoundsException",
        "int drawTableau() IllegalStateException",
        "int size()",
        "int nodeWinner(int) IndexOutOfBoundsException",
        "int gone()",
    };
    private static final String[] CONSTANTS = {"EPEE", "FAILED", "FOIL", "MARKED", "NONE", "UNTESTED"};

    public static void main(String[] args) {
        Due due = new Due("FaceTest");
        due.is("the class is public and final", PisteLine.class.getModifiers(), Modifier.PUBLIC | Modifier.FINAL);
        due.same("the methods", openMethods().toString(), new TreeSet<>(Arrays.asList(METHODS)).toString());
        due.same("the constants", openFields().toString(), new TreeSet<>(Arrays.asList(CONSTANTS)).toString());
        Constructor<?>[] constructors = PisteLine.class.getDeclaredConstructors();
        due.is("constructors", constructors.length, 1);
        due.is("the constructor is public", constructors[0].getModifiers(), Modifier.PUBLIC);
        due.same("its arguments", Arrays.toString(constructors[0].getParameterTypes()), "[int]");
        due.is("the classes inside are at most 12", PisteLine.class.getDeclaredClasses().length <= 12, true);
        for (Class<?> inside : PisteLine.class.getDeclaredClasses()) {
            due.is(inside + " is static", Modifier.isStatic(inside.getModifiers()), true);
            due.is(inside + " is not open", Modifier.isPublic(inside.getModifiers()), false);
            noFaceName(due, inside);
            noGreatClass(due, inside);
        }
        noFaceName(due, PisteLine.class);
        noGreatClass(due, PisteLine.class);
        due.end();
    }

    private static Set<String> openMethods() {
        Set<String> found = new TreeSet<>();
        for (Method method : PisteLine.class.getDeclaredMethods()) {
            if (Modifier.isPrivate(method.getModifiers())) {
                continue;
            }
            StringBuilder text = new StringBuilder();
            text.append(method.getReturnType().getSimpleName()).append(' ').append(method.getName()).append('(');
            String comma = "";
            for (Class<?> type : method.getParameterTypes()) {
                text.append(comma).append(type.getSimpleName());
                comma = ",";
            }
            text.append(')');
            for (Class<?> type : method.getExceptionTypes()) {
                text.append(' ').append(type.getSimpleName());
            }
            found.add(text.toString());
        }
        return found;
    }

    private static Set<String> openFields() {
        Set<String> found = new TreeSet<>();
        for (Field field : PisteLine.class.getDeclaredFields()) {
            if (!Modifier.isPrivate(field.getModifiers())) {
                found.add(field.getName());
            }
        }
        return found;
    }

    /** The sizes that LANGUAGE.md tells: some twenty fields a class, seven parameters a method. */
    private static void noGreatClass(Due due, Class<?> type) {
        int fields = 0;
        for (Field field : type.getDeclaredFields()) {
            fields += Modifier.isStatic(field.getModifiers()) ? 0 : 1;
        }
        due.is("the fields of " + type + " are at most 20", fields <= 20, true);
        for (Method method : type.getDeclaredMethods()) {
            due.is(method + " takes at most 7", method.getParameterCount() <= 7, true);
        }
    }

    private static void noFaceName(Due due, Class<?> type) {
        Set<String> names = new TreeSet<>();
        for (String method : METHODS) {
            names.add(method.substring(method.indexOf(' ') + 1, method.indexOf('(')));
        }
        for (Method method : type.getDeclaredMethods()) {
            if (type != PisteLine.class || Modifier.isPrivate(method.getModifiers())) {
                due.is(type + " has its own name " + method.getName(), names.contains(method.getName()), false);
            }
        }
    }
}
