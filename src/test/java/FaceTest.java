import java.lang.reflect.Constructor;
import java.lang.reflect.Field;
import java.lang.reflect.Method;
import java.lang.reflect.Modifier;
import java.util.Set;
import java.util.TreeSet;

/** The public face, whole and with nothing beside it. */
public final class FaceTest {
    private static final Set<String> FACE = Set.of(
            "int why()", "boolean dampRow(int,int,int)", "boolean damp(int,int,int)", "int dampAt(int,int)",
            "boolean strength(int,int)", "boolean heatRow(int,int)", "int heated(int,int)", "int years(int)",
            "int measure(int,int)", "int piece(int,int,int,int)", "int about(int,int)", "int wheel(int,int,int,int)",
            "int told(int,int)", "int at(int,int)", "boolean put(int,int,int)", "int out(int,int)", "int space(int)",
            "int gap(int,int)", "boolean tyre(int,int,int)", "int off()", "int missing(int)", "int bears(int)",
            "int carries(int)", "int weakest(int)", "boolean turn(int,int)", "int alike(int,int,int)",
            "int plan(int)", "int planned(int)", "int fill(int)", "void keep()", "boolean undo()", "int count(int)");

    public static void main(String[] args) {
        Checks c = new Checks();
        Set<String> shown = new TreeSet<>();
        Set<String> names = new TreeSet<>();
        for (Method method : WheelYard.class.getDeclaredMethods()) {
            if (!Modifier.isPrivate(method.getModifiers())) {
                shown.add(inWords(method));
                names.add(method.getName());
            }
        }
        c.yes("the public methods " + shown, shown.equals(FACE));
        for (Class<?> inner : WheelYard.class.getDeclaredClasses()) {
            c.yes(inner + " is static", Modifier.isStatic(inner.getModifiers()));
            privateOnesAreNamedApart(c, inner, names);
        }
        privateOnesAreNamedApart(c, WheelYard.class, names);
        constructorAndConstant(c);
        c.yes("the class is public and final",
                Modifier.isFinal(WheelYard.class.getModifiers()) && Modifier.isPublic(WheelYard.class.getModifiers()));
        c.end();
    }

    private static void constructorAndConstant(Checks c) {
        Constructor<?>[] constructors = WheelYard.class.getDeclaredConstructors();
        c.due("constructors", constructors.length, 1);
        c.yes("a public constructor", Modifier.isPublic(constructors[0].getModifiers()));
        c.due("its parameters", constructors[0].getParameterCount(), 0);
        for (Field field : WheelYard.class.getDeclaredFields()) {
            boolean open = !Modifier.isPrivate(field.getModifiers());
            c.yes("field " + field.getName(), open == field.getName().equals("NONE"));
        }
        c.due("NONE", WheelYard.NONE, -1);
    }

    private static void privateOnesAreNamedApart(Checks c, Class<?> owner, Set<String> names) {
        for (Method method : owner.getDeclaredMethods()) {
            if (Modifier.isPrivate(method.getModifiers())) {
                c.yes("a name of its own for " + method, !names.contains(method.getName()));
            }
        }
    }

    private static String inWords(Method method) {
        StringBuilder words = new StringBuilder(method.getReturnType().getName()).append(' ').append(method.getName());
        char before = '(';
        for (Class<?> type : method.getParameterTypes()) {
            words.append(before).append(type.getName());
            before = ',';
        }
        return words.append(before == '(' ? "()" : ")").toString();
    }
}
