import java.io.IOException;
import java.lang.reflect.Constructor;
import java.lang.reflect.Field;
import java.lang.reflect.Method;
import java.lang.reflect.Modifier;
import java.nio.charset.StandardCharsets;
import java.nio.file.Files;
import java.nio.file.Path;
import java.util.ArrayList;
import java.util.List;
import java.util.Set;
import java.util.TreeSet;
import java.util.regex.Matcher;
import java.util.regex.Pattern;

/** The class has just the document's face, word for word, and no other member can be seen; run from the root. */
public final class FaceTest {
    public static void main(String[] args) throws IOException {
        Class<BirdForge> type = BirdForge.class;
        Check.yes("the face in Document.java is the document's", Document.isCopied());
        Check.same("declarations, word for word", Document.face(), declarations());
        Check.same("package", "", type.getPackageName());
        methods(type);
        constructors(type.getDeclaredConstructors());
        for (Field field : type.getDeclaredFields()) {
            Check.yes("private field " + field.getName(), Modifier.isPrivate(field.getModifiers()));
        }
        for (Class<?> inside : type.getDeclaredClasses()) {
            Check.yes("private static class " + inside.getSimpleName(), Modifier.isStatic(inside.getModifiers())
                    && Modifier.isPrivate(inside.getModifiers()));
        }
        Check.finish();
    }

    /** The public declarations of the program's text, written as in the document. */
    private static List<String> declarations() throws IOException {
        String text = Files.readString(Path.of("src/main/java/BirdForge.java"), StandardCharsets.UTF_8);
        List<String> found = new ArrayList<>();
        Matcher matcher = Pattern.compile("\\bpublic\\s[^{;]*[{;]").matcher(text);
        while (matcher.find()) {
            String declaration = matcher.group().replaceAll("\\s+", " ");
            boolean isMethod = declaration.contains("(");
            found.add(isMethod ? declaration.replace(" {", ";") : declaration);
        }
        return found;
    }

    private static void methods(Class<BirdForge> type) {
        Set<String> open = new TreeSet<>();
        Set<String> openNames = new TreeSet<>();
        Set<String> hidden = hiddenNames(type);
        for (Class<?> inside : type.getDeclaredClasses()) {
            hidden.addAll(hiddenNames(inside));
        }
        for (Method method : type.getDeclaredMethods()) {
            if (!Modifier.isPrivate(method.getModifiers())) {
                open.add(text(method));
                openNames.add(method.getName());
            }
        }
        Check.same("methods", due(), open);
        hidden.retainAll(openNames);
        Check.same("private methods named like a public one", Set.of(), hidden);
    }

    private static Set<String> hiddenNames(Class<?> type) {
        Set<String> names = new TreeSet<>();
        for (Method method : type.getDeclaredMethods()) {
            if (Modifier.isPrivate(method.getModifiers())) {
                names.add(method.getName());
            }
        }
        return names;
    }

    private static void constructors(Constructor<?>[] constructors) {
        Check.same("constructors", 1, constructors.length);
        Check.yes("public constructor", Modifier.isPublic(constructors[0].getModifiers()));
        Check.same("constructor's arguments", 0, constructors[0].getParameterCount());
    }

    /** The document's methods, without the names of their arguments. */
    private static Set<String> due() {
        Set<String> due = new TreeSet<>();
        for (String line : Document.face()) {
            if (line.contains(" class ") || line.equals("public BirdForge();")) {
                continue;
            }
            due.add(line.replaceAll("(int|char) \\w+(?=[,)])", "$1").replace(";", ""));
        }
        return due;
    }

    private static String text(Method method) {
        StringBuilder text = new StringBuilder(Modifier.toString(method.getModifiers()));
        text.append(' ').append(method.getReturnType().getSimpleName()).append(' ').append(method.getName());
        text.append('(').append(names(method.getParameterTypes())).append(')');
        boolean throwsAny = method.getExceptionTypes().length > 0;
        return text.append(throwsAny ? " throws " : "").append(names(method.getExceptionTypes())).toString();
    }

    private static String names(Class<?>[] types) {
        List<String> names = new ArrayList<>();
        for (Class<?> type : types) {
            names.add(type.getSimpleName());
        }
        return String.join(", ", names);
    }
}
