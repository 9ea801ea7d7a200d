/** The boundary cases of promises 39 to 44. */
public final class TotalsBoundsTest {
    private static final Class<ArithmeticException> ARITHMETIC = ArithmeticException.class;

    public static void main(String[] args) {
        counts();
        burntTotal();
        meanHardness();
        passShare();
        isConsistent();
        Check.finish();
    }

    private static void counts() {
        Bounds.holds("P39, P40: none so far", "", "strokeTotal = 0, birdTotal = 0");
        String passed = Heat.fourPassed();
        Bounds.holds("P39: 3 strokes for each piece", passed, "strokeTotal = 12, wear 0 = 12, birdTotal = 0");
        Bounds.holds("P39, P40: removed pieces count", passed + ", assemble 1 2 3 4", "strokeTotal = 12, birdTotal = 1,"
                + " pieceCount = 0");
        Bounds.holds("P39: not below after a scrap", "addPiece b, addHammer 9, " + Heat.to(900) + ", hammer 1 0,"
                + " scrap 1", "strokeTotal = 1");
        Bounds.holds("P39, P40: undone", passed + ", assemble 1 2 3 4, undo", "birdTotal = 0, strokeTotal = 12,"
                + " assemble 1 2 4 3 = 1");
        Bounds.holds("P39, P40: a refused call is none", passed + ", try hammer 1 0, try assemble 1 2 3 3",
                "strokeTotal = 12, birdTotal = 0");
    }

    private static void burntTotal() {
        Bounds.holds("P41: none so far", "", "burntTotal = 0, addCoal 50 = 70, burntTotal = 0, advance 60 = 20,"
                + " burntTotal = 0");
        Bounds.holds("P41: the last unit", "setBellows 1, advance 19", "burntTotal = 19, advance 1 = *,"
                + " burntTotal = 20, advance 1 = *, burntTotal = 20, coal = 0");
        Bounds.holds("P41: more than a store holds", "addCoal 50, addCoal 29, setBellows 5, advance 19, addCoal 50,"
                + " addCoal 45, setBellows 5, advance 19", "burntTotal = 190, coal = 4, undo = *, burntTotal = 95");
    }

    private static void meanHardness() {
        Bounds.refused("P42: no pieces", "", ARITHMETIC, "meanHardness");
        Bounds.refused("P42: no pieces any more", "addPiece b, scrap 1", ARITHMETIC, "meanHardness");
        Bounds.refused("P42: no pieces after a bird", Heat.fourPassed() + ", assemble 1 2 3 4", ARITHMETIC,
                "meanHardness");
        Bounds.holds("P42: one piece", "addPiece b", "meanHardness = 10.0");
        Bounds.holds("P42: eight pieces", "8 * addPiece b", "meanHardness = 10.0");
        Bounds.holds("P42: divided as double", "addPiece b, " + Heat.QUENCHED, "hardness 1 = 22, meanHardness = 22.0,"
                + " addPiece w = 2, meanHardness = 16.0, addPiece w = 3, meanHardness = 14.0, addPiece w = 4,"
                + " meanHardness = 13.0, addPiece w = 5, meanHardness = 12.4, addPiece w = 6, addPiece w = 7,"
                + " meanHardness = " + 82.0 / 7.0);
        Bounds.holds("P42: a sum of 0", "addPiece b, " + Heat.QUENCHED + ", putIn 1, advance 27", "hardness 1 = 0,"
                + " meanHardness = 0.0");
    }

    private static void passShare() {
        Bounds.refused("P43: no tests", "", ARITHMETIC, "passShare");
        Bounds.refused("P43: no tests of untested pieces", "addPiece b, " + Heat.QUENCHED, ARITHMETIC, "passShare");
        Bounds.refused("P43: no tests that were not refused", "addPiece b, try test 1", ARITHMETIC, "passShare");
        Bounds.refused("P43: no tests that were not undone", "addPiece b, " + Heat.QUENCHED + ", test 1, undo",
                ARITHMETIC,
                "passShare");
        Bounds.holds("P43: none passed", "addPiece b, " + Heat.QUENCHED, "test 1 = false, passShare = 0.0");
        Bounds.holds("P43: all passed", Heat.fourPassed(), "passShare = 1.0");
        Bounds.holds("P43: three of four, divided as float", Heat.fourParts(2, false, true), "passShare = 0.75,"
                + " scrap 2 = 3, passShare = 0.75, undo = *, undo = *, passShare = " + 2.0f / 3.0f);
    }

    private static void isConsistent() {
        String[] scripts = {"", "8 * addPiece b, 4 * addHammer 9", "addCoal 50, addCoal 29", "setBellows 5, advance 5",
            Heat.fourPassed(), Heat.fourPassed() + ", assemble 1 2 3 4", Heat.fourPassed() + ", 3 * undo",
            Heat.fourPassed() + ", putIn 1, putIn 2, advance 9",
            Heat.fourPassed() + ", putIn 1, putIn 2, addCoal 50, advance 9, scrap 1",
            "addPiece b, addHammer 9, " + Heat.to(900) + ", hammer 1 0, save, addCoal 9, hammer 1 0, restore",
            "type coal 9;coal 0, try run", "type coal 9;wait 1;piece b;in 1, run"};
        for (String script : scripts) {
            Bounds.holds("P44: all invariants hold", script, "isConsistent = true");
            BirdForge forge = Script.forgeAfter(script);
            String before = Bounds.seen(() -> Script.forgeAfter(script)).toString();
            Check.same("P44: asking changes nothing after <" + script + ">", before, Bounds.seen(() -> {
                BirdForge asked = Script.forgeAfter(script);
                asked.isConsistent();
                return asked;
            }).toString());
            Check.yes("P44: asked twice", forge.isConsistent() && forge.isConsistent());
        }
    }
}
