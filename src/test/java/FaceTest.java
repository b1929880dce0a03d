import java.lang.reflect.Field;
import java.lang.reflect.Method;
import java.lang.reflect.Modifier;
import java.util.Set;
import java.util.TreeSet;

/** The public face is the document's, and nothing else of the class can be seen from outside. */
public final class FaceTest {
    private static final String[] METHODS = {
        "long mint(int,int,long)", "long balance(int,int)", "long total(int)", "long house(int)",
        "int pool(int,int,int,int)", "long of(int,int)", "long join(int,int,long,long)",
        "long leave(int,int,long)", "long swap(int,int,int,long)", "long quote(int,int,long)",
        "int flash(int,int,long,long,long,long)", "int tick(int)", "int mark(int,int)", "long mean(int)",
        "int batch(int,int)", "int order(int,int,long,long)", "long clear()", "long dealt(int)",
        "long rate(int,long)", "long lend(int,int,long)", "long redeem(int,int,long)", "long vault(int,int)",
        "int loan(int,int,int,long,long)", "long ofLoan(int,int)", "long pay(int,int,long)",
        "long close(int,int)", "int count(int)",
    };

    private static final Checks CHECKS = new Checks();

    public static void main(String[] args) {
        Class<?> face = ExactCurves.class;
        CHECKS.holds("the class is public and final",
            Modifier.isPublic(face.getModifiers()) && Modifier.isFinal(face.getModifiers()));
        CHECKS.due("constructors", face.getDeclaredConstructors().length, 1);
        CHECKS.holds("the constructor is public and takes nothing",
            Modifier.isPublic(face.getDeclaredConstructors()[0].getModifiers())
                && face.getDeclaredConstructors()[0].getParameterCount() == 0);
        methods(face);
        fields(face);
        for (Class<?> inside : face.getDeclaredClasses()) {
            CHECKS.holds(inside + " is static", Modifier.isStatic(inside.getModifiers()));
            CHECKS.holds(inside + " is not public or protected",
                (inside.getModifiers() & (Modifier.PUBLIC | Modifier.PROTECTED)) == 0);
        }
        CHECKS.end();
    }

    private static void methods(Class<?> face) {
        Set<String> due = new TreeSet<>(Set.of(METHODS));
        Set<String> names = new TreeSet<>();
        for (String method : METHODS) {
            names.add(method.substring(method.indexOf(' ') + 1, method.indexOf('(')));
        }
        Set<String> found = new TreeSet<>();
        for (Method method : face.getDeclaredMethods()) {
            if (Modifier.isPrivate(method.getModifiers())) {
                CHECKS.holds(method + " bears no public name", !names.contains(method.getName()));
            } else {
                found.add(signature(method));
            }
        }
        CHECKS.holds("the methods are " + due + ", not " + found, due.equals(found));
    }

    private static String signature(Method method) {
        StringBuilder text = new StringBuilder(method.getReturnType() + " " + method.getName() + "(");
        for (Class<?> type : method.getParameterTypes()) {
            text.append(text.charAt(text.length() - 1) == '(' ? "" : ",").append(type);
        }
        return text.append(")").toString();
    }

    private static void fields(Class<?> face) {
        CHECKS.due("NONE", ExactCurves.NONE, -1);
        CHECKS.due("BAD", ExactCurves.BAD, -2);
        CHECKS.due("REFUSED", ExactCurves.REFUSED, -3);
        Set<String> seen = new TreeSet<>();
        for (Field field : face.getDeclaredFields()) {
            if (!Modifier.isPrivate(field.getModifiers())) {
                seen.add(field.getName());
            }
            if (Modifier.isStatic(field.getModifiers())) {
                CHECKS.holds(field + " is final", Modifier.isFinal(field.getModifiers()));
            }
        }
        CHECKS.holds("only the constants are seen, not " + seen, seen.equals(Set.of("BAD", "NONE", "REFUSED")));
    }
}
