import java.lang.reflect.Constructor;
import java.lang.reflect.Field;
import java.lang.reflect.Method;
import java.lang.reflect.Modifier;
import java.util.Arrays;
import java.util.TreeSet;

/** What ../shared/LANGUAGE.md says of the face and of what is hidden, by reflection; SourceTests has the rest. */
public final class LanguageTests {
    private static final String[] FACE = {
        "int road(int,int)", "int roads(int,int,int)", "int mend(int,int,int)", "int of(int,int)", "int feed(int)",
        "int law()", "int pull(int,int)", "int has(int)", "int last(int,int)", "int day(int,int,int,int)",
        "int unlike(int,int)", "int how(int,int)", "int ahead(int,int)", "int again(int)", "int green()",
        "int second(int,int)", "int sit(int,int)", "long power(int,int)", "int winning(int)", "int more(int)",
        "int whatever(int,int)", "int least()", "int judge(int)", "int liking(int,int,int)",
        "int waited(int,int,int)", "int fair(int,int)", "int drawn(int,int,int)", "int comes(int)", "int send(int)",
        "int led(int)", "int image()", "int back()", "int undo()", "int redo()", "int body(int)",
        "int act(int,int,int)", "int trace(int)", "int keep(int,int)", "int row(int,int,int)",
        "int put(int,int,long)", "long element(int,int)", "int shift(int,int,int,int,int)", "int taken(int,int)",
        "int count(int)"};
    private static final String[] CONSTANTS = {"BAD", "NOT", "FULL", "STATE", "VOID"};

    public static void main(String[] args) {
        Due.group("face");
        face();
        for (Class<?> inner : CrossroadsChoose.class.getDeclaredClasses()) {
            inner(inner);
        }
        Due.due("classes", 1 + CrossroadsChoose.class.getDeclaredClasses().length <= 12 ? 1 : 0, 1);
        Due.end("LanguageTests");
    }

    private static String told(Method m) {
        StringBuilder told = new StringBuilder(m.getReturnType() + " " + m.getName() + "(");
        for (int i = 0; i < m.getParameterCount(); i++) {
            told.append(i == 0 ? "" : ",").append(m.getParameterTypes()[i]);
        }
        return told.append(")").toString();
    }

    private static void face() {
        Class<?> of = CrossroadsChoose.class;
        Due.due("public final", of.getModifiers(), Modifier.PUBLIC | Modifier.FINAL);
        TreeSet<String> told = new TreeSet<>();
        for (Method m : of.getDeclaredMethods()) {
            if (Modifier.isPublic(m.getModifiers())) {
                told.add(told(m));
                Due.due("plain public " + m, m.getModifiers(), Modifier.PUBLIC);
            } else {
                hidden(m);
            }
        }
        Due.due("methods " + told, told.equals(new TreeSet<>(Arrays.asList(FACE))) ? 1 : 0, 1);
        Constructor<?>[] made = of.getDeclaredConstructors();
        Due.due("one constructor", made.length, 1);
        Due.due("public constructor", made[0].getModifiers(), Modifier.PUBLIC);
        TreeSet<String> constants = new TreeSet<>();
        for (Field f : of.getDeclaredFields()) {
            if (!Modifier.isPrivate(f.getModifiers())) {
                constants.add(f.getName());
            }
        }
        Due.due("constants " + constants, constants.equals(new TreeSet<>(Arrays.asList(CONSTANTS))) ? 1 : 0, 1);
        fields(of);
    }

    private static void inner(Class<?> inner) {
        Due.due("static " + inner, Modifier.isStatic(inner.getModifiers()) ? 1 : 0, 1);
        Due.due("not public " + inner, inner.getModifiers() & (Modifier.PUBLIC | Modifier.PROTECTED), 0);
        for (Method m : inner.getDeclaredMethods()) {
            Due.due("not the name of a public one " + m, isFaceName(m.getName()) ? 1 : 0, 0);
            Due.due("parameters of " + m, m.getParameterCount() <= 7 ? 1 : 0, 1);
        }
        fields(inner);
    }

    private static void hidden(Method m) {
        Due.due("private " + m, Modifier.isPrivate(m.getModifiers()) ? 1 : 0, 1);
        Due.due("not the name of a public one " + m, isFaceName(m.getName()) ? 1 : 0, 0);
        Due.due("parameters of " + m, m.getParameterCount() <= 7 ? 1 : 0, 1);
    }

    private static boolean isFaceName(String name) {
        return Arrays.stream(FACE).anyMatch(f -> f.contains(" " + name + "("));
    }

    private static void fields(Class<?> of) {
        int own = 0;
        for (Field f : of.getDeclaredFields()) {
            if (Modifier.isStatic(f.getModifiers())) {
                Due.due("final " + f, Modifier.isFinal(f.getModifiers()) ? 1 : 0, 1);
            } else {
                own++;
            }
        }
        Due.due("fields of " + of, own <= 20 ? 1 : 0, 1);
    }
}
