import java.io.IOException;
import java.lang.reflect.Constructor;
import java.lang.reflect.Field;
import java.lang.reflect.Method;
import java.lang.reflect.Modifier;
import java.nio.file.Files;
import java.nio.file.Path;
import java.util.Arrays;
import java.util.Set;
import java.util.TreeSet;
import java.util.regex.Matcher;
import java.util.regex.Pattern;

/** The public face, and the rules of LANGUAGE.md that can be seen in the source's text. */
public final class FaceTest {
    private static final Check CHECK = new Check("face");
    private static final String[] FACE = {"int feed(int, int, int, int, int)", "int end(int)", "int out(int)", "int set()",
        "int get()", "int known()", "int drop()", "int open()", "int close()", "int subject(boolean)", "int parse()",
        "int name(int)", "int value(int)", "int count(int)"};
    private static final int METHOD_LINES = 60;

    public static void main(String[] args) throws IOException {
        members();
        constants();
        insideClasses();
        source(Files.readString(Path.of("src/main/java/NameRoom.java")));
        Check.finish();
    }

    private static void members() {
        CHECK.due("class", Modifier.toString(NameRoom.class.getModifiers()), "public final");
        CHECK.due("constructors", NameRoom.class.getDeclaredConstructors().length, 1);
        for (Constructor<?> one : NameRoom.class.getDeclaredConstructors()) {
            CHECK.due("constructor", one.toString(), "public NameRoom()");
        }
        Set<String> seen = new TreeSet<>();
        Set<String> hidden = new TreeSet<>();
        for (Method method : NameRoom.class.getDeclaredMethods()) {
            if (Modifier.isPrivate(method.getModifiers())) {
                hidden.add(method.getName());
            } else {
                seen.add(Modifier.toString(method.getModifiers()) + " " + told(method));
            }
        }
        Set<String> due = new TreeSet<>();
        for (String one : FACE) {
            due.add("public " + one);
            String name = one.substring(4, one.indexOf('('));
            CHECK.due("private " + name, String.valueOf(hidden.contains(name)), "false");
        }
        CHECK.due("methods", seen.toString(), due.toString());
    }

    private static String told(Method method) {
        String types = Arrays.toString(Arrays.stream(method.getParameterTypes()).map(Class::getName).toArray());
        return method.getReturnType().getName() + " " + method.getName() + "(" + types.substring(1, types.length() - 1) + ")";
    }

    private static void constants() {
        Set<String> seen = new TreeSet<>();
        for (Field field : NameRoom.class.getDeclaredFields()) {
            if (!Modifier.isPrivate(field.getModifiers())) {
                seen.add(field.toString());
            }
        }
        Set<String> due = new TreeSet<>();
        for (String name : new String[] {"NONE", "LONG", "STATE", "FULL"}) {
            due.add("public static final int NameRoom." + name);
        }
        CHECK.due("constants", seen.toString(), due.toString());
        CHECK.due("NONE", NameRoom.NONE, -1);
        CHECK.due("LONG", NameRoom.LONG, -2);
        CHECK.due("STATE", NameRoom.STATE, -3);
        CHECK.due("FULL", NameRoom.FULL, -4);
    }

    private static void insideClasses() {
        for (Class<?> inside : NameRoom.class.getDeclaredClasses()) {
            int modifiers = inside.getModifiers();
            boolean fits = Modifier.isStatic(modifiers) && !Modifier.isPublic(modifiers) && !Modifier.isProtected(modifiers);
            CHECK.due(inside.getName(), String.valueOf(fits), "true");
        }
    }

    private static void source(String text) {
        String code = text.replaceAll("(?s)/\\*.*?\\*/", "").replaceAll("//[^\n]*", "").replaceAll("'\\\\?.'", "0");
        String banned = "\\b(throw|throws|try|catch|synchronized|assert|import|package|protected|record|float|double)\\b|->|::|\"";
        Matcher matcher = Pattern.compile(banned).matcher(code);
        while (matcher.find()) {
            CHECK.due("source", matcher.group(), "");
        }
        int start = 0;
        String[] lines = text.split("\n");
        for (int i = 0; i < lines.length; i++) {
            if (lines[i].matches(" {4}(?! )(?!.*\\bclass\\b).*\\{| {8}(?! ).*\\) \\{")) {
                start = i;
            }
            if (lines[i].matches(".*\\bnew\\b.*;") && !lines[start].matches(" +(public )?[A-Z]\\w*\\(.*")) {
                CHECK.due("made outside of constructors", lines[i].strip(), "");
            }
            if (lines[i].matches(" {4}(    )?\\}") && i - start > METHOD_LINES) {
                CHECK.due("lines of " + lines[start].strip(), i - start, METHOD_LINES);
            }
        }
    }
}
