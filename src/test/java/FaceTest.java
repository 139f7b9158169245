import java.lang.reflect.Constructor;
import java.lang.reflect.Field;
import java.lang.reflect.Method;
import java.lang.reflect.Modifier;
import java.util.Set;
import java.util.TreeSet;

/** The public face, to the letter of the document, and nothing beside it. */
final class FaceTest {
    private static final String[] FACE = {
        "int addHostel(int,int,int) IllegalArgumentException,IllegalStateException",
        "int addPilgrim(int,int) IndexOutOfBoundsException,IllegalArgumentException,IllegalStateException",
        "int set(int,int) IndexOutOfBoundsException,IllegalArgumentException",
        "int walk(int,int) IndexOutOfBoundsException,IllegalStateException",
        "int ride(int,int) IndexOutOfBoundsException,IllegalStateException",
        "int evening() IllegalStateException",
        "int lose(int) IndexOutOfBoundsException",
        "int rebuild(int) IndexOutOfBoundsException",
        "int blot(int,int) IndexOutOfBoundsException,IllegalArgumentException,IllegalStateException",
        "int append(int) IllegalArgumentException,IllegalStateException",
        "int clearBuffer() ",
        "int firstError() ",
        "int forge(int) IndexOutOfBoundsException,IllegalArgumentException,IllegalStateException",
        "int undo() IllegalStateException",
        "int hostel(int,int) IndexOutOfBoundsException,IllegalArgumentException",
        "int pilgrim(int,int) IndexOutOfBoundsException,IllegalArgumentException",
        "int stamp(int,int,int) IndexOutOfBoundsException,IllegalArgumentException",
        "int page(int,int) IndexOutOfBoundsException,IllegalArgumentException",
        "int count(int) IllegalArgumentException",
        "int setting(int) IndexOutOfBoundsException",
        "int whyNot(int,int) IndexOutOfBoundsException",
        "int bedPlace(int) IndexOutOfBoundsException",
        "int fewestDays(int,int,int) IndexOutOfBoundsException,IllegalArgumentException",
        "int readings(int,int,int) IndexOutOfBoundsException,IllegalArgumentException",
        "int alike(int) IndexOutOfBoundsException",
        "double meanWeariness() ",
        "long digest() ",
    };

    private FaceTest() {
    }

    private static String names(Class<?>[] classes) {
        StringBuilder names = new StringBuilder();
        for (Class<?> one : classes) {
            names.append(names.length() == 0 ? "" : ",").append(one.getSimpleName());
        }
        return names.toString();
    }

    public static void main(String[] arguments) throws ReflectiveOperationException {
        Class<?> face = StampHostels.class;
        Script.due("the class is public and final", face.getModifiers(), Modifier.PUBLIC | Modifier.FINAL);
        Set<String> open = new TreeSet<>();
        Set<String> publicNames = new TreeSet<>();
        for (Method method : face.getDeclaredMethods()) {
            if (!Modifier.isPrivate(method.getModifiers())) {
                open.add(method.getReturnType().getSimpleName() + " " + method.getName()
                        + "(" + names(method.getParameterTypes()) + ") " + names(method.getExceptionTypes()));
                Script.due(method + " is public alone", method.getModifiers(), Modifier.PUBLIC);
                publicNames.add(method.getName());
            }
        }
        Script.due("the open methods", open, new TreeSet<>(Set.of(FACE)));
        for (Field field : face.getDeclaredFields()) {
            Script.due(field + " is private, but for NONE", Modifier.isPrivate(field.getModifiers()),
                    !field.getName().equals("NONE"));
        }
        Field none = face.getField("NONE");
        Script.due("NONE", none.getModifiers() + " " + none.getInt(null),
                (Modifier.PUBLIC | Modifier.STATIC | Modifier.FINAL) + " -1");
        Constructor<?>[] constructors = face.getDeclaredConstructors();
        Script.due("constructors", constructors.length, 1);
        Script.due("the constructor", constructors[0].getModifiers() + names(constructors[0].getParameterTypes()),
                String.valueOf(Modifier.PUBLIC));
        privateOnes(face, publicNames);
        Script.end();
    }

    private static void privateOnes(Class<?> face, Set<String> publicNames) {
        for (Method method : face.getDeclaredMethods()) {
            if (Modifier.isPrivate(method.getModifiers())) {
                Script.due(method + " bears a public name", publicNames.contains(method.getName()), false);
            }
        }
        Script.due("at most 12 classes", face.getDeclaredClasses().length <= 11, true);
        fewFields(face);
        for (Class<?> inside : face.getDeclaredClasses()) {
            Script.due(inside + " is private and static",
                    Modifier.isPrivate(inside.getModifiers()) && Modifier.isStatic(inside.getModifiers()), true);
            fewFields(inside);
            for (Method method : inside.getDeclaredMethods()) {
                Script.due(method + " bears a public name", publicNames.contains(method.getName()), false);
            }
        }
    }

    private static void fewFields(Class<?> one) {
        int fields = 0;
        for (Field field : one.getDeclaredFields()) {
            fields += Modifier.isStatic(field.getModifiers()) ? 0 : 1;
        }
        Script.due(one + " has few fields", fields <= 20, true);
    }
}
