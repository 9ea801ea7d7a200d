/** Promises 39 to 44. */
public final class TotalsTest {
    public static void main(String[] args) {
        emptyForge();
        coal();
        hardness();
        strokesAndTests();
        consistent();
        Check.finish();
    }

    private static void emptyForge() {
        BirdForge forge = new BirdForge();
        Check.same("strokes", 0, forge.strokeTotal());
        Check.same("birds", 0, forge.birdTotal());
        Check.same("burnt", 0L, forge.burntTotal());
        Check.refused("mean of no pieces", ArithmeticException.class, forge::meanHardness);
        Check.refused("share of no tests", ArithmeticException.class, forge::passShare);
    }

    private static void coal() {
        BirdForge forge = new BirdForge();
        forge.setBellows(3);
        forge.advance(4);
        Check.same("burnt", 12L, forge.burntTotal());
        forge.advance(60);
        Check.same("two units are too few", 18L, forge.burntTotal());
        forge.addCoal(30);
        Check.same("adding is not burning", 18L, forge.burntTotal());
        forge.setBellows(5);
        forge.advance(3);
        Check.same("burnt in all", 33L, forge.burntTotal());
        Check.yes("consistent", forge.isConsistent());
    }

    private static void hardness() {
        BirdForge forge = Check.withPieceAt(900, "bnw");
        Check.same("mean of new pieces", 10.0, forge.meanHardness());
        forge.quench(1);
        Check.same("mean of 47, 10 and 10", 67.0 / 3.0, forge.meanHardness());
        forge.scrap(2);
        Check.same("mean of 47 and 10", 28.5, forge.meanHardness());
    }

    private static void strokesAndTests() {
        BirdForge forge = new BirdForge();
        forge.addHammer(9);
        for (char kind : "bnwww".toCharArray()) {
            forge.addPiece(kind);
        }
        Check.make(forge, 1, 2);
        Check.same("all passed", 1.0f, forge.passShare());
        int strokes = forge.strokeTotal();
        Check.same("strokes", strokes, forge.wear(0));
        forge.putIn(5);
        while (forge.temperature(5) < 880) {
            Check.blow(forge, 5);
        }
        forge.takeOut(5);
        forge.quench(5);
        Check.same("without stages", false, forge.test(5));
        Check.same("two of three", 2.0f / 3.0f, forge.passShare());
        forge.scrap(5);
        Check.same("scrapped pieces count", 2.0f / 3.0f, forge.passShare());
        Check.make(forge, 3, 4);
        Check.same("four of five", 4.0f / 5.0f, forge.passShare());
        forge.assemble(1, 2, 3, 4);
        Check.same("a bird", 1, forge.birdTotal());
        Check.same("used pieces count", 4.0f / 5.0f, forge.passShare());
        Check.refused("no pieces are left", ArithmeticException.class, forge::meanHardness);
        Check.yes("consistent", forge.isConsistent());
    }

    private static void consistent() {
        BirdForge forge = Check.withPieceAt(900, "bnwwb");
        forge.addHammer(3);
        forge.hammer(1, 0);
        Check.yes("with a stroke", forge.isConsistent());
        forge.putIn(2);
        forge.putIn(1);
        forge.setBellows(2);
        for (int i = 0; i < 40; i++) {
            forge.advance(1);
            String before = Check.everything(forge);
            Check.yes("while minutes pass", forge.isConsistent());
            Check.same("asking changes nothing", before, Check.everything(forge));
        }
        forge.undo();
        Check.yes("after undo", forge.isConsistent());
    }
}
