import java.lang.reflect.Constructor;
import java.lang.reflect.Field;
import java.lang.reflect.Method;
import java.lang.reflect.Modifier;
import java.util.Set;
import java.util.TreeSet;

/** The public face: just the members of the document, and the values of its constants. */
final class FaceTest {
    private static final Set<String> DUE = Set.of(
        "int NONE", "int FULL", "MashEnzymes()",
        "boolean grain(double,double,int)", "boolean liquor(double,double,double)", "boolean enzyme(int,double)",
        "boolean step(int,double)", "int run(int)", "double sugar(int)", "double starch()", "double enzymeLeft(int)",
        "double degrees()", "int take(double)", "boolean back(int,double)", "double water()", "boolean converted()");

    public static void main(String[] args) {
        Check check = new Check();
        check.is("NONE", MashEnzymes.NONE, -1);
        check.is("FULL", MashEnzymes.FULL, -2);
        int modifiers = MashEnzymes.class.getModifiers();
        check.is("public final class", Modifier.isPublic(modifiers) && Modifier.isFinal(modifiers), true);
        check.is("the members " + members() + " are those of the document", members().equals(new TreeSet<>(DUE)), true);
        check.end();
    }

    static Set<String> members() {
        Set<String> members = new TreeSet<>();
        for (Field field : MashEnzymes.class.getDeclaredFields()) {
            if (!Modifier.isPrivate(field.getModifiers())) {
                members.add(field.getType() + " " + field.getName());
            }
        }
        for (Constructor<?> constructor : MashEnzymes.class.getDeclaredConstructors()) {
            members.add("MashEnzymes" + parameters(constructor.getParameterTypes()));
        }
        for (Method method : MashEnzymes.class.getDeclaredMethods()) {
            if (!Modifier.isPrivate(method.getModifiers())) {
                members.add(method.getReturnType() + " " + method.getName() + parameters(method.getParameterTypes()));
            }
        }
        return members;
    }

    private static String parameters(Class<?>[] types) {
        StringBuilder text = new StringBuilder("(");
        for (Class<?> type : types) {
            text.append(text.length() > 1 ? "," : "").append(type.getName());
        }
        return text.append(")").toString();
    }
}
