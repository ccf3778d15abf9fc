import java.lang.reflect.Constructor;
import java.lang.reflect.Field;
import java.lang.reflect.Method;
import java.lang.reflect.Modifier;
import java.nio.file.Files;
import java.nio.file.Path;
import java.util.Arrays;
import java.util.TreeSet;
import java.util.regex.Matcher;
import java.util.regex.Pattern;

/** What ../shared/LANGUAGE.md forbids and a test can see: the face by reflection, the rest by the source's text. */
public final class LanguageTests {
    private static final String[] FACE = {
        "int road(int,int)", "int roads(int,int,int)", "int mend(int,int,int)", "int of(int,int)", "int feed(int)",
        "int law()", "int pull(int,int)", "int has(int)", "int last(int,int)", "int day(int,int,int,int)",
        "int unlike(int,int)", "int how(int,int)", "int ahead(int,int)", "int again(int)", "int green()",
        "int second(int,int)", "int sit(int,int)", "long power(int,int)", "int winning(int)", "int more(int)",
        "int whatever(int,int)", "int least()", "int judge(int)", "int liking(int,int,int)",
        "int waited(int,int,int)", "int fair(int,int)", "int drawn(int,int,int)", "int comes(int)", "int send(int)",
        "int led(int)", "int image()", "int back()", "int undo()", "int redo()", "int body(int)",
        "int act(int,int,int)", "int trace(int)", "int keep(int,int)", "int row(int,int,int)",
        "int put(int,int,long)", "long element(int,int)", "int shift(int,int,int,int,int)", "int taken(int,int)",
        "int count(int)"};
    private static final String[] CONSTANTS = {"BAD", "NOT", "FULL", "STATE", "VOID"};
    private static final String[] FORBIDDEN = {"throw", "throws", "try", "catch", "synchronized", "assert", "->",
        "::", "volatile", "native", "package", "extends", "Object", "System\\.(?!arraycopy)", "float", "double",
        "\\w+Exact", "Random", "Thread", "\"", "instanceof", "@"};

    public static void main(String[] args) throws Exception {
        Due.group("face");
        face();
        for (Class<?> inner : CrossroadsChoose.class.getDeclaredClasses()) {
            inner(inner);
        }
        Due.due("classes", 1 + CrossroadsChoose.class.getDeclaredClasses().length <= 12 ? 1 : 0, 1);
        String path = args.length > 0 ? args[0] : "src/main/java/CrossroadsChoose.java";
        String source = Files.readString(Path.of(path));
        Due.group("text");
        text(source.replaceAll("(?s)/\\*.*?\\*/", "").replaceAll("//[^\n]*", "").replaceAll("'.'", "0"));
        Due.end("LanguageTests");
    }

    private static String told(Method m) {
        StringBuilder told = new StringBuilder(m.getReturnType() + " " + m.getName() + "(");
        for (int i = 0; i < m.getParameterCount(); i++) {
            told.append(i == 0 ? "" : ",").append(m.getParameterTypes()[i]);
        }
        return told.append(")").toString();
    }

    private static void face() {
        Class<?> of = CrossroadsChoose.class;
        Due.due("public final", of.getModifiers(), Modifier.PUBLIC | Modifier.FINAL);
        TreeSet<String> told = new TreeSet<>();
        for (Method m : of.getDeclaredMethods()) {
            if (Modifier.isPublic(m.getModifiers())) {
                told.add(told(m));
                Due.due("plain public " + m, m.getModifiers(), Modifier.PUBLIC);
            } else {
                hidden(m);
            }
        }
        Due.due("methods " + told, told.equals(new TreeSet<>(Arrays.asList(FACE))) ? 1 : 0, 1);
        Constructor<?>[] made = of.getDeclaredConstructors();
        Due.due("one constructor", made.length, 1);
        Due.due("public constructor", made[0].getModifiers(), Modifier.PUBLIC);
        TreeSet<String> constants = new TreeSet<>();
        for (Field f : of.getDeclaredFields()) {
            if (!Modifier.isPrivate(f.getModifiers())) {
                constants.add(f.getName());
            }
        }
        Due.due("constants " + constants, constants.equals(new TreeSet<>(Arrays.asList(CONSTANTS))) ? 1 : 0, 1);
        fields(of);
    }

    private static void inner(Class<?> inner) {
        Due.due("static " + inner, Modifier.isStatic(inner.getModifiers()) ? 1 : 0, 1);
        Due.due("not public " + inner, inner.getModifiers() & (Modifier.PUBLIC | Modifier.PROTECTED), 0);
        for (Method m : inner.getDeclaredMethods()) {
            Due.due("not the name of a public one " + m, isFaceName(m.getName()) ? 1 : 0, 0);
            Due.due("parameters of " + m, m.getParameterCount() <= 7 ? 1 : 0, 1);
        }
        fields(inner);
    }

    private static void hidden(Method m) {
        Due.due("private " + m, Modifier.isPrivate(m.getModifiers()) ? 1 : 0, 1);
        Due.due("not the name of a public one " + m, isFaceName(m.getName()) ? 1 : 0, 0);
        Due.due("parameters of " + m, m.getParameterCount() <= 7 ? 1 : 0, 1);
    }

    private static boolean isFaceName(String name) {
        return Arrays.stream(FACE).anyMatch(f -> f.contains(" " + name + "("));
    }

    private static void fields(Class<?> of) {
        int own = 0;
        for (Field f : of.getDeclaredFields()) {
            if (Modifier.isStatic(f.getModifiers())) {
                Due.due("final " + f, Modifier.isFinal(f.getModifiers()) ? 1 : 0, 1);
            } else {
                own++;
            }
        }
        Due.due("fields of " + of, own <= 20 ? 1 : 0, 1);
    }

    private static void text(String source) {
        for (String word : FORBIDDEN) {
            String pattern = Character.isLetter(word.charAt(0)) ? "\\b" + word + "\\b" : word;
            pattern = word.startsWith("System") ? "\\b" + word : pattern;
            Matcher found = Pattern.compile(pattern).matcher(source);
            Due.due("found " + word, found.find() ? 1 : 0, 0);
        }
        Matcher imports = Pattern.compile("(?m)^import (.*);").matcher(source);
        while (imports.find()) {
            Due.due("import " + imports.group(1), imports.group(1).equals("java.util.Arrays") ? 1 : 0, 1);
        }
        int began = -1, at = 0;
        boolean constructs = false;
        for (String line : source.split("\n")) {
            at++;
            if (line.matches("( {4}| {8})(?! |for |if |while |switch |\\}).*\\) \\{")) {
                began = at;
                constructs = line.matches(".*\\b[A-Z]\\w*\\(.*") && !line.contains("=");
            }
            if (line.matches(" {4,8}}") && began >= 0) {
                Due.due("lines of the method at " + began, at - began <= 60 ? 1 : 0, 1);
            }
            if (line.contains("new ")) {
                boolean field = line.matches("( {4}| {8})private .*;");
                Due.due("made in no call, line " + at, field || constructs ? 1 : 0, 1);
            }
        }
    }
}
