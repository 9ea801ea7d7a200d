import java.lang.reflect.Constructor;
import java.lang.reflect.Field;
import java.lang.reflect.Method;
import java.lang.reflect.Modifier;
import java.util.Set;
import java.util.TreeSet;

/** The class has just the document's face: no member is missing, and no other one can be seen. */
public final class FaceTest {
    private static final String NO_PIECE = " NoSuchElementException";
    private static final String NO_INDEX = " IndexOutOfBoundsException";
    private static final String ARGUMENT = " IllegalArgumentException";
    private static final String STATE = " IllegalStateException";
    private static final String UNSUPPORTED = " UnsupportedOperationException";
    private static final String ARITHMETIC = " ArithmeticException";

    private static final String[] METHODS = {
        "int addCoal(int)" + ARGUMENT + STATE,
        "int setBellows(int)" + ARGUMENT,
        "int advance(int)" + ARGUMENT,
        "int addPiece(char)" + ARGUMENT + STATE,
        "int addHammer(int)" + ARGUMENT + STATE,
        "int putIn(int)" + NO_PIECE + STATE,
        "int takeOut(int)" + NO_PIECE + STATE,
        "int hammer(int,int)" + NO_PIECE + NO_INDEX + STATE + UNSUPPORTED,
        "int quench(int)" + NO_PIECE + STATE + UNSUPPORTED,
        "boolean test(int)" + NO_PIECE + STATE + UNSUPPORTED,
        "int assemble(int,int,int,int)" + NO_PIECE + ARGUMENT + STATE,
        "int scrap(int)" + NO_PIECE,
        "int time()",
        "int furnace()",
        "int bellows()",
        "int coal()",
        "int coalMinutes()" + ARITHMETIC,
        "int piecesInFurnace()",
        "int furnaceAfter(int)" + ARGUMENT,
        "int pieceCount()",
        "boolean exists(int)",
        "int pieceAt(int)" + NO_INDEX,
        "char kind(int)" + NO_PIECE,
        "int temperature(int)" + NO_PIECE,
        "int stages(int)" + NO_PIECE,
        "int hardness(int)" + NO_PIECE,
        "boolean isInFurnace(int)" + NO_PIECE,
        "boolean isQuenched(int)" + NO_PIECE,
        "boolean hasPassed(int)" + NO_PIECE,
        "int stroke(int,int)" + NO_PIECE + NO_INDEX,
        "int minutesToCool(int,int)" + NO_PIECE + ARGUMENT + STATE,
        "int minutesToCoolAlone(int,int)" + NO_PIECE + ARGUMENT + STATE,
        "int pieceAtRank(int)" + NO_INDEX,
        "int hammerCount()",
        "int weight(int)" + NO_INDEX,
        "int wear(int)" + NO_INDEX,
        "int heaviestHammer()" + NO_PIECE,
        "int strokeTotal()",
        "int birdTotal()",
        "long burntTotal()",
        "double meanHardness()" + ARITHMETIC,
        "float passShare()" + ARITHMETIC,
        "boolean isConsistent()",
        "int append(char)" + STATE,
        "int run()" + ARGUMENT + UNSUPPORTED,
        "int errorPosition()" + NO_PIECE,
        "int failedCommand()" + NO_PIECE,
        "int writePiece(int)" + NO_PIECE,
        "int writeFurnace()",
        "char outputAt(int)" + NO_INDEX,
        "int undo()" + STATE,
        "void save()",
        "void restore()" + STATE,
    };

    public static void main(String[] args) {
        Class<BirdForge> type = BirdForge.class;
        Check.yes("public and final", Modifier.isPublic(type.getModifiers()) && Modifier.isFinal(type.getModifiers()));
        Check.same("package", "", type.getPackageName());
        Set<String> open = new TreeSet<>();
        Set<String> hidden = new TreeSet<>();
        for (Method method : type.getDeclaredMethods()) {
            if (Modifier.isPrivate(method.getModifiers())) {
                hidden.add(method.getName());
            } else {
                open.add(text(method));
            }
            Check.same("static and not private: " + method.getName(), false,
                    Modifier.isStatic(method.getModifiers()) && !Modifier.isPrivate(method.getModifiers()));
        }
        Check.same("methods", new TreeSet<>(Set.of(METHODS)), open);
        for (Method method : type.getMethods()) {
            Check.same("private method named like a public one", false, hidden.contains(method.getName()));
        }
        for (Field field : type.getDeclaredFields()) {
            Check.yes("private field " + field.getName(), Modifier.isPrivate(field.getModifiers()));
        }
        Constructor<?>[] constructors = type.getDeclaredConstructors();
        Check.same("constructors", 1, constructors.length);
        Check.yes("public constructor", Modifier.isPublic(constructors[0].getModifiers()));
        Check.same("constructor's arguments", 0, constructors[0].getParameterCount());
        for (Class<?> inside : type.getDeclaredClasses()) {
            Check.yes("private static class " + inside.getSimpleName(), Modifier.isStatic(inside.getModifiers())
                    && Modifier.isPrivate(inside.getModifiers()));
        }
        Check.finish();
    }

    private static String text(Method method) {
        StringBuilder text = new StringBuilder();
        text.append(method.getReturnType().getSimpleName()).append(' ').append(method.getName()).append('(');
        for (int i = 0; i < method.getParameterCount(); i++) {
            text.append(i > 0 ? "," : "").append(method.getParameterTypes()[i].getSimpleName());
        }
        text.append(')');
        for (Class<?> thrown : method.getExceptionTypes()) {
            text.append(' ').append(thrown.getSimpleName());
        }
        return text.toString();
    }
}
