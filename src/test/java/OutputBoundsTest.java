import java.util.NoSuchElementException;

/** The boundary cases of promises 49 to 51. */
public final class OutputBoundsTest {
    private static final Class<NoSuchElementException> MISSING = NoSuchElementException.class;
    private static final Class<IndexOutOfBoundsException> INDEX = IndexOutOfBoundsException.class;
    private static final String LEAST = "-2147483648";
    private static final String MOST = "2147483647";

    public static void main(String[] args) {
        emptyLine();
        indices();
        signs();
        longest();
        furnace();
        lineStays();
        Check.finish();
    }

    private static void emptyLine() {
        Bounds.refusedBare("P51: the line is initially empty", "", INDEX, "outputAt 0", "outputAt -1", "outputAt 1",
                "outputAt " + LEAST, "outputAt " + MOST);
        Bounds.refusedBare("P51: a refused call writes nothing", "addPiece b, try writePiece 2", INDEX, "outputAt 0");
    }

    private static void indices() {
        String written = "addPiece b, putIn 1, writeFurnace";
        Bounds.holds("P50, P51: from 0 to the length", written, "line = 20@0#20 1, outputAt 0 = 2, outputAt 2 = @,"
                + " outputAt 8 = 1, outputAt 9 = IndexOutOfBoundsException, writeFurnace = 9");
        Bounds.refusedBare("P51: not negative, less than the length", written, INDEX, "outputAt -1", "outputAt 9",
                "outputAt 10", "outputAt " + LEAST, "outputAt " + MOST);
        Bounds.refusedBare("P51: a shorter line replaces a longer one", written + ", takeOut 1, writeFurnace", INDEX,
                "outputAt 7", "outputAt 8");
        Bounds.holds("P51: a shorter line replaces a longer one", written, "takeOut 1 = 20, writeFurnace = 7,"
                + " line = 20@0#20, writePiece 1 = 10, line = 1b:20/0/10, outputAt 9 = 0,"
                + " outputAt 10 = IndexOutOfBoundsException, writeFurnace = 7, line = 20@0#20,"
                + " outputAt 7 = IndexOutOfBoundsException");
    }

    private static void signs() {
        String sentence = "P49: the signs of a piece";
        String quenched = "addPiece n, " + Heat.QUENCHED;
        Bounds.holds(sentence, "addPiece n", "writePiece 1 = 10, line = 1n:20/0/10");
        Bounds.holds(sentence, "addPiece n, putIn 1", "writePiece 1 = 11, line = 1n:20/0/10*");
        Bounds.holds(sentence, quenched, "writePiece 1 = 11, line = 1n:20/0/22q");
        Bounds.holds(sentence, quenched + ", putIn 1", "writePiece 1 = 12, line = 1n:20/0/22*q");
        Bounds.holds(sentence, quenched + ", test 1", "writePiece 1 = 12, line = 1n:20/0/22q-");
        Bounds.holds(sentence, quenched + ", test 1, putIn 1", "writePiece 1 = 13, line = 1n:20/0/22*q-");
        Bounds.holds(sentence, Heat.fourPassed(), "writePiece 3 = 13, line = 3w:20/10/53q+, writePiece 1 = 13,"
                + " line = 1b:20/10/53q+, putIn 3 = 1, writePiece 3 = 14, line = 3w:20/10/53*q+");
        Bounds.refusedBare("P49: there is no such piece", "addPiece n, addPiece n, scrap 1, writePiece 2", MISSING,
                "writePiece 1", "writePiece 0", "writePiece 3", "writePiece -1", "writePiece " + LEAST,
                "writePiece " + MOST);
        Bounds.holds("P49: the line stays when a piece is missing", "addPiece n, writePiece 1, try writePiece 2",
                "line = 1n:20/0/10");
    }

    private static void longest() {
        String hundred = scrapped(99) + ", addPiece w";
        Bounds.holds("P49: a number of three digits", hundred, "writePiece 100 = 12, line = 100w:20/0/10");
        String hot = "addPiece b, addHammer 1, " + Heat.to(1138) + ", advance 1, 10 * hammer 1 0, putIn 1";
        Bounds.holds("P49: four digits and two digits", hot + ", addCoal 50, setBellows 5, advance 9",
                "writePiece 1 = 14, line = 1b:1129/10/30*");
        Bounds.holds("P49: a hardness of one digit", "addPiece b, " + Heat.QUENCHED + ", putIn 1, advance 27",
                "writePiece 1 = 12, line = 1b:200/0/0*q");
        Bounds.holds("P50: a number of three digits", hundred, "putIn 100 = 1, writeFurnace = 11, line = 20@0#20 100");
    }

    private static String scrapped(int count) {
        StringBuilder script = new StringBuilder();
        for (int number = 1; number <= count; number++) {
            script.append(number > 1 ? ", " : "").append("addPiece b, scrap ").append(number);
        }
        return script.toString();
    }

    private static void furnace() {
        Bounds.holds("P50: a new forge", "", "writeFurnace = 7, line = 20@0#20");
        Bounds.holds("P50: a full store", "addCoal 50, addCoal 29", "writeFurnace = 7, line = 20@0#99");
        Bounds.holds("P50: no coal", "setBellows 5, advance 4", "writeFurnace = 7, line = 374@5#0");
        Bounds.holds("P50: the hottest furnace", "addCoal 50, addCoal 29, setBellows 5, advance 18", "writeFurnace = 8,"
                + " line = 1141@5#9");
        Bounds.holds("P50: up to 3 pieces, ascending", "4 * addPiece w, putIn 4", "writeFurnace = 9, line = 20@0#20 4,"
                + " putIn 1 = 2, writeFurnace = 11, line = 20@0#20 1 4, putIn 3 = 3, writeFurnace = 13,"
                + " line = 20@0#20 1 3 4, scrap 1 = 3, writeFurnace = 11, line = 20@0#20 3 4, takeOut 4 = 20,"
                + " writeFurnace = 9, line = 20@0#20 3");
        Bounds.holds("P50: ascending as numbers, not as texts", "8 * addPiece w, scrap 1, scrap 3, addPiece n,"
                + " addPiece b, putIn 10, putIn 2, putIn 9", "writeFurnace = 14, line = 20@0#20 2 9 10");
    }

    private static void lineStays() {
        String written = "addPiece b, putIn 1, writeFurnace";
        for (String calls : new String[] {"advance 9", "scrap 1", "undo", "save, undo, restore", "try putIn 1",
                "try writePiece 2", "type x, try run", "type coal 1, run", "try outputAt 99"}) {
            Bounds.holds("P51: the line is as it was written", written + ", " + calls, "line = 20@0#20 1");
        }
    }
}
