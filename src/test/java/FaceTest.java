import java.lang.reflect.Constructor;
import java.lang.reflect.Field;
import java.lang.reflect.Method;
import java.lang.reflect.Modifier;
import java.util.Set;
import java.util.TreeSet;

/** The public face of the document, and rule 1 of LANGUAGE.md. */
final class FaceTest {
    private static final Set<String> FACE = new TreeSet<>(Set.of(
        "int tick()", "boolean ask(int,int)", "boolean release(int,int)", "boolean deliver(int)", "boolean lose(int)",
        "boolean stop(int)", "boolean start(int)", "boolean alone(int)", "boolean link(boolean)", "int state(int)",
        "int entry(int,int,int)", "int client(int,int)", "int messages()", "int message(int,int)"));

    public static void main(String[] args) {
        Class<LeasePair> face = LeasePair.class;
        Check.due("the class", Modifier.toString(face.getModifiers()), "public final");
        Check.due("constructors", face.getDeclaredConstructors().length, 1);
        for (Constructor<?> made : face.getDeclaredConstructors()) {
            Check.due("the constructor", made.toString(), "public LeasePair()");
        }
        methods(face);
        for (Field field : face.getDeclaredFields()) {
            Check.yes("private: " + field, Modifier.isPrivate(field.getModifiers()));
        }
        for (Class<?> inside : face.getDeclaredClasses()) {
            classInside(inside);
        }
        Check.end();
    }

    private static void methods(Class<?> face) {
        Set<String> open = new TreeSet<>();
        Set<String> names = new TreeSet<>();
        for (Method method : face.getDeclaredMethods()) {
            if (Modifier.isPublic(method.getModifiers())) {
                Check.due("modifiers of " + method, Modifier.toString(method.getModifiers()), "public");
                open.add(method.toString().replaceAll("public |LeasePair\\.", ""));
                names.add(method.getName());
            }
        }
        Check.due("the public methods", open, FACE);
        for (Method method : face.getDeclaredMethods()) {
            int modifiers = method.getModifiers();
            Check.yes("public or private: " + method, Modifier.isPublic(modifiers)
                    || Modifier.isPrivate(modifiers) && !names.contains(method.getName()));
        }
    }

    private static void classInside(Class<?> inside) {
        Check.yes("static: " + inside, Modifier.isStatic(inside.getModifiers()));
        Check.no("public: " + inside, Modifier.isPublic(inside.getModifiers()));
        Check.no("protected: " + inside, Modifier.isProtected(inside.getModifiers()));
        Check.yes("at most 20 fields: " + inside, inside.getDeclaredFields().length <= 20);
    }
}
