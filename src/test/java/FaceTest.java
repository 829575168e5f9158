import java.lang.reflect.Constructor;
import java.lang.reflect.Field;
import java.lang.reflect.Method;
import java.lang.reflect.Modifier;
import java.util.Set;
import java.util.TreeSet;

/** The public face is the document's and no more. */
public final class FaceTest {
    private static final String[] METHODS = {
        "int basic(int)", "int unite(int,int)", "int meet(int,int)", "int chain(int,int)", "int star(int)",
        "int invert(int)", "boolean forget()", "int count()", "int states(int)", "int next(int,int,int)",
        "boolean accepts(int,int)", "boolean contains(int,long,int)", "boolean same(int,int)", "int study(int)",
        "int elements()", "long word(int)", "int product(int,int)", "boolean related(int,int,int)",
        "int classes(int)", "int witness(int)",
    };

    public static void main(String[] args) throws Exception {
        Class<?> face = LetterAlgebra.class;
        Check.due("class is public", Modifier.isPublic(face.getModifiers()), true);
        Check.due("class is final", Modifier.isFinal(face.getModifiers()), true);
        methods(face);
        fields(face);
        Constructor<?>[] made = face.getDeclaredConstructors();
        Check.due("constructors", made.length, 1);
        Check.due("constructor is public", Modifier.isPublic(made[0].getModifiers()), true);
        Check.due("constructor's parameters", made[0].getParameterCount(), 0);
        for (Class<?> inner : face.getDeclaredClasses()) {
            Check.due(inner.getName() + " is static", Modifier.isStatic(inner.getModifiers()), true);
            Check.due(inner.getName() + " is public", Modifier.isPublic(inner.getModifiers()), false);
        }
        Check.due("BAD", LetterAlgebra.BAD, -1);
        Check.due("FULL", LetterAlgebra.FULL, -2);
        Check.due("LARGE", LetterAlgebra.LARGE, -3);
        Check.end();
    }

    private static void methods(Class<?> face) {
        Set<String> want = new TreeSet<>(Set.of(METHODS));
        Set<String> names = new TreeSet<>();
        for (String method : METHODS) {
            names.add(method.substring(method.indexOf(' ') + 1, method.indexOf('(')));
        }
        for (Method method : face.getDeclaredMethods()) {
            if (Modifier.isPrivate(method.getModifiers())) {
                Check.due("private " + method.getName(), names.contains(method.getName()), false);
            } else {
                Check.due(text(method), want.remove(text(method)), true);
                Check.due(text(method) + " is public", Modifier.isPublic(method.getModifiers()), true);
            }
        }
        Check.due("missing methods " + want, want.size(), 0);
    }

    private static String text(Method method) {
        StringBuilder text = new StringBuilder();
        text.append(method.getReturnType().getName()).append(' ').append(method.getName()).append('(');
        String comma = "";
        for (Class<?> parameter : method.getParameterTypes()) {
            text.append(comma).append(parameter.getName());
            comma = ",";
        }
        return text.append(')').toString();
    }

    private static void fields(Class<?> face) {
        Set<String> want = new TreeSet<>(Set.of("BAD", "FULL", "LARGE"));
        for (Field field : face.getDeclaredFields()) {
            if (!Modifier.isPrivate(field.getModifiers())) {
                Check.due("field " + field.getName(), want.remove(field.getName()), true);
                Check.due(field.getName() + " is an int", field.getType() == int.class, true);
            }
            if (Modifier.isStatic(field.getModifiers())) {
                Check.due(field.getName() + " is final", Modifier.isFinal(field.getModifiers()), true);
            }
        }
        Check.due("missing constants " + want, want.size(), 0);
    }
}
