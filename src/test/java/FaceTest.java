import java.lang.reflect.Constructor;
import java.lang.reflect.Field;
import java.lang.reflect.Method;
import java.lang.reflect.Modifier;
import java.nio.file.Files;
import java.nio.file.Path;
import java.util.ArrayList;
import java.util.List;
import java.util.TreeSet;
import java.util.regex.Matcher;
import java.util.regex.Pattern;

/** The face is that of the document, read from ../shared/DOC.md, and nothing else of the class is to be seen. */
public final class FaceTest {
    private static final Pattern SIGNATURE = Pattern.compile("^    (public [^;]*;)$", Pattern.MULTILINE);

    public static void main(String[] args) throws Exception {
        Class<?> face = Leastbag.class;
        Check.due("the class's modifiers", Modifier.toString(face.getModifiers()), "public final");
        TreeSet<String> told = told();
        TreeSet<String> found = found(face);
        Check.due("how many signatures the document has", told.size(), 47);
        Check.due("the face", String.join("\n", found), String.join("\n", told));
        noOtherMembers(face);
        Check.end("FaceTest");
    }

    private static TreeSet<String> told() throws Exception {
        TreeSet<String> told = new TreeSet<>();
        Matcher matcher = SIGNATURE.matcher(Files.readString(Path.of("../shared/DOC.md")));
        while (matcher.find()) {
            told.add(matcher.group(1).replaceAll("(int|boolean) \\w+(?=[,)])", "$1"));
        }
        return told;
    }

    private static TreeSet<String> found(Class<?> face) {
        TreeSet<String> found = new TreeSet<>();
        for (Constructor<?> maker : face.getDeclaredConstructors()) {
            if (!Modifier.isPrivate(maker.getModifiers())) {
                found.add("public " + face.getSimpleName() + "(" + names(maker.getParameterTypes(), ", ") + ");");
            }
        }
        for (Method method : face.getDeclaredMethods()) {
            if (!Modifier.isPrivate(method.getModifiers())) {
                String raised = names(method.getExceptionTypes(), ", ");
                found.add(Modifier.toString(method.getModifiers()) + " " + method.getReturnType().getSimpleName()
                        + " " + method.getName() + "(" + names(method.getParameterTypes(), ", ") + ")"
                        + (raised.isEmpty() ? "" : " throws " + raised) + ";");
            }
        }
        return found;
    }

    private static String names(Class<?>[] types, String between) {
        List<String> names = new ArrayList<>();
        for (Class<?> type : types) {
            names.add(type.getSimpleName());
        }
        return String.join(between, names);
    }

    private static void noOtherMembers(Class<?> face) {
        TreeSet<String> open = new TreeSet<>();
        for (Method method : face.getDeclaredMethods()) {
            if (!Modifier.isPrivate(method.getModifiers())) {
                open.add(method.getName());
            }
        }
        for (Method method : face.getDeclaredMethods()) {
            if (Modifier.isPrivate(method.getModifiers())) {
                Check.due("private " + method.getName() + " bears a public name", open.contains(method.getName()), false);
            }
        }
        for (Field field : face.getDeclaredFields()) {
            int modifiers = field.getModifiers();
            Check.due(field.getName() + " is private", Modifier.isPrivate(modifiers), true);
            Check.due(field.getName() + " is final if static", !Modifier.isStatic(modifiers) || Modifier.isFinal(modifiers), true);
        }
        for (Class<?> inside : face.getDeclaredClasses()) {
            int modifiers = inside.getModifiers();
            Check.due(inside.getName() + " is hidden", !Modifier.isPublic(modifiers) && !Modifier.isProtected(modifiers), true);
        }
    }
}
