import java.io.IOException;
import java.nio.charset.StandardCharsets;
import java.nio.file.Files;
import java.nio.file.Path;
import java.util.List;

/** The public face as the document's code block writes it. */
final class Document {
    private static final Path PAGE = Path.of("../shared/DOC.md");

    private static final String FACE = """
            import java.util.NoSuchElementException;

            public final class BirdForge {
                public BirdForge();
                public int addCoal(int units) throws IllegalArgumentException, IllegalStateException;
                public int setBellows(int level) throws IllegalArgumentException;
                public int advance(int minutes) throws IllegalArgumentException;
                public int addPiece(char kind) throws IllegalArgumentException, IllegalStateException;
                public int addHammer(int weight) throws IllegalArgumentException, IllegalStateException;
                public int putIn(int piece) throws NoSuchElementException, IllegalStateException;
                public int takeOut(int piece) throws NoSuchElementException, IllegalStateException;
                public int hammer(int piece, int hammer) throws NoSuchElementException, IndexOutOfBoundsException, IllegalStateException, UnsupportedOperationException;
                public int quench(int piece) throws NoSuchElementException, IllegalStateException, UnsupportedOperationException;
                public boolean test(int piece) throws NoSuchElementException, IllegalStateException, UnsupportedOperationException;
                public int assemble(int body, int neck, int wing, int otherWing) throws NoSuchElementException, IllegalArgumentException, IllegalStateException;
                public int scrap(int piece) throws NoSuchElementException;
                public int time();
                public int furnace();
                public int bellows();
                public int coal();
                public int coalMinutes() throws ArithmeticException;
                public int piecesInFurnace();
                public int furnaceAfter(int minutes) throws IllegalArgumentException;
                public int pieceCount();
                public boolean exists(int piece);
                public int pieceAt(int position) throws IndexOutOfBoundsException;
                public char kind(int piece) throws NoSuchElementException;
                public int temperature(int piece) throws NoSuchElementException;
                public int stages(int piece) throws NoSuchElementException;
                public int hardness(int piece) throws NoSuchElementException;
                public boolean isInFurnace(int piece) throws NoSuchElementException;
                public boolean isQuenched(int piece) throws NoSuchElementException;
                public boolean hasPassed(int piece) throws NoSuchElementException;
                public int stroke(int piece, int hammer) throws NoSuchElementException, IndexOutOfBoundsException;
                public int minutesToCool(int piece, int degrees) throws NoSuchElementException, IllegalArgumentException, IllegalStateException;
                public int minutesToCoolAlone(int piece, int degrees) throws NoSuchElementException, IllegalArgumentException, IllegalStateException;
                public int pieceAtRank(int rank) throws IndexOutOfBoundsException;
                public int hammerCount();
                public int weight(int hammer) throws IndexOutOfBoundsException;
                public int wear(int hammer) throws IndexOutOfBoundsException;
                public int heaviestHammer() throws NoSuchElementException;
                public int strokeTotal();
                public int birdTotal();
                public long burntTotal();
                public double meanHardness() throws ArithmeticException;
                public float passShare() throws ArithmeticException;
                public boolean isConsistent();
                public int append(char character) throws IllegalStateException;
                public int run() throws IllegalArgumentException, UnsupportedOperationException;
                public int errorPosition() throws NoSuchElementException;
                public int failedCommand() throws NoSuchElementException;
                public int writePiece(int piece) throws NoSuchElementException;
                public int writeFurnace();
                public char outputAt(int index) throws IndexOutOfBoundsException;
                public int undo() throws IllegalStateException;
                public void save();
                public void restore() throws IllegalStateException;
            }
            """;

    private Document() {
    }

    /** The block's declarations in their order, the class itself first, without their indentation. */
    static List<String> face() {
        return FACE.lines().map(String::trim).filter(line -> line.startsWith("public")).toList();
    }

    /** Whether the document still says the same; where it is not at hand, the copy above has to do. */
    static boolean isCopied() throws IOException {
        String block = "```java\n" + FACE + "```";
        return !Files.exists(PAGE) || Files.readString(PAGE, StandardCharsets.UTF_8).contains(block);
    }
}
