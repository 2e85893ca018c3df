import java.lang.reflect.Constructor;
import java.lang.reflect.Field;
import java.lang.reflect.Method;
import java.lang.reflect.Modifier;
import java.util.Set;
import java.util.TreeSet;

/** The class has the document's face and no member beside it that others could see. */
public final class FaceTest {
    private static final Set<String> METHODS = Set.of(
        "boolean begin(int)", "int edge(int,int)", "boolean drop(int)", "boolean ask(int,int)",
        "int vertices()", "int edges()", "int end(int,int)", "int demand(int)", "int judge(int)",
        "int most()", "int best()", "int factor()", "int role(int)", "int slack(int)",
        "int gain(int)", "int bound(int,int)", "int witness(int)");

    public static void main(String[] args) {
        Due due = new Due("FaceTest");
        due.same("modifiers", FactorDesk.class.getModifiers(), Modifier.PUBLIC | Modifier.FINAL);
        constructors(due);
        methods(due);
        fields(due);
        for (Class<?> inside : FactorDesk.class.getDeclaredClasses()) {
            nested(due, inside);
        }
        due.close();
    }

    private static void constructors(Due due) {
        Constructor<?>[] all = FactorDesk.class.getDeclaredConstructors();
        due.same("constructors", all.length, 1);
        due.same("its parameters", all[0].getParameterCount(), 0);
        due.holds("it is public", Modifier.isPublic(all[0].getModifiers()));
    }

    private static void methods(Due due) {
        Set<String> seen = new TreeSet<>();
        for (Method method : FactorDesk.class.getDeclaredMethods()) {
            if (!Modifier.isPrivate(method.getModifiers())) {
                due.same(method + " is public alone", method.getModifiers(), Modifier.PUBLIC);
                seen.add(signature(method));
            } else {
                due.holds(method + " has a name of its own", !isPublicName(method.getName()));
            }
        }
        due.holds("the methods are those of the document, not " + seen, seen.equals(METHODS));
    }

    private static void fields(Due due) {
        for (Field field : FactorDesk.class.getDeclaredFields()) {
            int modifiers = field.getModifiers();
            boolean constant = field.getName().equals("NONE");
            due.holds(field + " is private, or NONE", constant ? Modifier.isPublic(modifiers) : Modifier.isPrivate(modifiers));
            due.holds(field + " is final when static", Modifier.isFinal(modifiers) || !Modifier.isStatic(modifiers));
        }
    }

    private static void nested(Due due, Class<?> inside) {
        int modifiers = inside.getModifiers();
        due.holds(inside + " is static", Modifier.isStatic(modifiers));
        due.holds(inside + " is seen by none outside", !Modifier.isPublic(modifiers) && !Modifier.isProtected(modifiers));
        for (Method method : inside.getDeclaredMethods()) {
            due.holds(method + " has a name of its own", !isPublicName(method.getName()));
        }
    }

    private static String signature(Method method) {
        StringBuilder text = new StringBuilder(method.getReturnType() + " " + method.getName() + "(");
        for (Class<?> type : method.getParameterTypes()) {
            text.append(text.charAt(text.length() - 1) == '(' ? "" : ",").append(type);
        }
        return text.append(")").toString();
    }

    private static boolean isPublicName(String name) {
        return METHODS.stream().anyMatch(m -> m.contains(" " + name + "("));
    }
}
