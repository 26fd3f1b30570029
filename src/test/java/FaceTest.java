import java.lang.reflect.Constructor;
import java.lang.reflect.Field;
import java.lang.reflect.Method;
import java.lang.reflect.Modifier;
import java.util.Set;
import java.util.TreeSet;

/** The document's public face, and rule 1 of LANGUAGE.md. */
public final class FaceTest {

    private static final Set<String> FACE = Set.of(
        "boolean type(int)", "void wipe()", "int length()", "int at(int)", "boolean apply(int)", "int print(int)",
        "boolean combine(int,int,int)", "boolean turn(int)", "int close(int)", "boolean contains(int,int)",
        "boolean has(int)", "boolean includes(int,int)", "int size(int)", "int strings(int)", "int edge(int,int)",
        "int nth(int,int)", "int span(int,int,boolean)");

    public static void main(String[] args) {
        Check check = new Check();
        Class<?> type = CodePointSets.class;
        check.yes("public final", Modifier.isPublic(type.getModifiers()) && Modifier.isFinal(type.getModifiers()));
        check.same("NONE", CodePointSets.NONE, -1);
        checkMethods(check, type);
        checkFields(check, type);
        Constructor<?>[] makers = type.getDeclaredConstructors();
        check.same("constructors", makers.length, 1);
        check.same("constructor", makers[0].toString(), "public CodePointSets()");
        for (Class<?> inside : type.getDeclaredClasses()) {
            check.yes("static: " + inside, Modifier.isStatic(inside.getModifiers()));
            check.no("public or protected: " + inside,
                Modifier.isPublic(inside.getModifiers()) || Modifier.isProtected(inside.getModifiers()));
        }
        check.finish();
    }

    private static void checkMethods(Check check, Class<?> type) {
        Set<String> found = new TreeSet<>();
        Set<String> names = new TreeSet<>();
        for (Method method : type.getDeclaredMethods()) {
            if (Modifier.isPublic(method.getModifiers())) {
                found.add(signature(method));
                names.add(method.getName());
            }
        }
        check.same("public methods", found.toString(), new TreeSet<>(FACE).toString());
        for (Method method : type.getDeclaredMethods()) {
            if (!Modifier.isPublic(method.getModifiers())) {
                check.yes("private: " + method, Modifier.isPrivate(method.getModifiers()));
                check.no("bears a public name: " + method, names.contains(method.getName()));
            }
        }
    }

    private static void checkFields(Check check, Class<?> type) {
        for (Field field : type.getDeclaredFields()) {
            boolean isPublic = Modifier.isPublic(field.getModifiers());
            check.yes("private or NONE: " + field, Modifier.isPrivate(field.getModifiers()) || isPublic);
            check.yes("only NONE is public: " + field, isPublic == field.getName().equals("NONE"));
            check.yes("static fields are final: " + field,
                !Modifier.isStatic(field.getModifiers()) || Modifier.isFinal(field.getModifiers()));
        }
    }

    private static String signature(Method method) {
        StringBuilder row = new StringBuilder();
        row.append(method.getReturnType()).append(' ').append(method.getName()).append('(');
        String between = "";
        for (Class<?> parameter : method.getParameterTypes()) {
            row.append(between).append(parameter);
            between = ",";
        }
        return row.append(')').toString();
    }
}
