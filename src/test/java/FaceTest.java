import java.io.IOException;
import java.lang.reflect.Constructor;
import java.lang.reflect.Field;
import java.lang.reflect.Method;
import java.lang.reflect.Modifier;
import java.nio.file.Files;
import java.nio.file.Path;
import java.util.Set;
import java.util.TreeSet;
import java.util.regex.Matcher;
import java.util.regex.Pattern;

/** The face of the class is the document's, and the file keeps to the rules of the language that can be seen in its text. */
public final class FaceTest {
    private static final Due DUE = new Due();

    private static final Set<String> FACE = Set.of(
            "int begin()", "int lock(int,int)", "int put(int,int,int,int)", "int remove(int,int)",
            "int end(int,boolean)", "long row(int,int)", "boolean crash(int)", "int snapshot()", "int step(int)",
            "int waiting()", "int tick(int)", "boolean deliver(int)", "boolean alter(int,boolean)", "int flight()",
            "int packet(int,int)", "boolean apply()", "long stored(int)", "long view(int,boolean)",
            "int position()", "int progress()", "ChangeFeed(int,int,int,int)", "int BAD", "int LOCKED", "int FULL");

    public static void main(String[] args) throws IOException {
        constants();
        members();
        nestedClasses();
        text();
        DUE.finish();
    }

    private static void constants() {
        DUE.is("BAD", ChangeFeed.BAD, -2);
        DUE.is("LOCKED", ChangeFeed.LOCKED, -3);
        DUE.is("FULL", ChangeFeed.FULL, -4);
    }

    private static void members() {
        int modifiers = ChangeFeed.class.getModifiers();
        DUE.is("the class is public and final", Modifier.isPublic(modifiers) && Modifier.isFinal(modifiers), true);
        Set<String> seen = new TreeSet<>();
        Set<String> publicNames = new TreeSet<>();
        for (Method method : ChangeFeed.class.getDeclaredMethods()) {
            if (!Modifier.isPrivate(method.getModifiers()) && !method.isSynthetic()) {
                seen.add(method.getReturnType() + " " + method.getName() + types(method.getParameterTypes()));
                publicNames.add(method.getName());
            }
        }
        for (Method method : ChangeFeed.class.getDeclaredMethods()) {
            if (Modifier.isPrivate(method.getModifiers())) {
                DUE.is("private " + method.getName() + " bears a public name",
                        publicNames.contains(method.getName()), false);
            }
        }
        for (Constructor<?> constructor : ChangeFeed.class.getDeclaredConstructors()) {
            seen.add("ChangeFeed" + types(constructor.getParameterTypes()));
        }
        for (Field field : ChangeFeed.class.getDeclaredFields()) {
            if (!Modifier.isPrivate(field.getModifiers())) {
                seen.add(field.getType() + " " + field.getName());
            }
            if (Modifier.isStatic(field.getModifiers())) {
                DUE.is("static " + field.getName() + " is final", Modifier.isFinal(field.getModifiers()), true);
            }
        }
        for (String member : FACE) {
            DUE.is("the face has " + member, seen.contains(member), true);
        }
        for (String member : seen) {
            DUE.is("the document has " + member, FACE.contains(member), true);
        }
    }

    private static void nestedClasses() {
        Class<?>[] nested = ChangeFeed.class.getDeclaredClasses();
        DUE.is("at most some twelve classes", nested.length <= 11, true);
        for (Class<?> one : nested) {
            int modifiers = one.getModifiers();
            DUE.is(one + " is static", Modifier.isStatic(modifiers), true);
            DUE.is(one + " is public or protected",
                    Modifier.isPublic(modifiers) || Modifier.isProtected(modifiers), false);
        }
    }

    private static void text() throws IOException {
        String code = Files.readString(Path.of("src/main/java/ChangeFeed.java"))
                .replaceAll("(?s)/\\*.*?\\*/", " ").replaceAll("//[^\n]*", " ");
        Matcher word = Pattern.compile("\\b(throw|throws|try|catch|finally|synchronized|assert|package|native"
                + "|Random|Thread|Runtime|currentTimeMillis|nanoTime|hashCode|toString)\\b|->|::").matcher(code);
        DUE.is("the file holds a word that the language leaves out", word.find(), false);
        Matcher imported = Pattern.compile("import\\s+([^;]+);").matcher(code);
        while (imported.find()) {
            DUE.is("import " + imported.group(1),
                    Set.of("java.util.Arrays", "java.util.ArrayList", "java.util.List").contains(imported.group(1)), true);
        }
    }

    private static String types(Class<?>[] types) {
        StringBuilder text = new StringBuilder("(");
        for (int i = 0; i < types.length; i++) {
            text.append(i == 0 ? "" : ",").append(types[i]);
        }
        return text.append(")").toString();
    }
}
