import java.util.NoSuchElementException;

/** Promises 49 to 51. */
public final class OutputTest {
    public static void main(String[] args) {
        pieces();
        furnace();
        outputAt();
        Check.finish();
    }

    private static void pieces() {
        BirdForge forge = Check.withPieceAt(900, "wb");
        forge.addHammer(9);
        Check.same("length", 11, forge.writePiece(1));
        Check.same("hot", "1w:900/0/10", Check.pieceLine(forge, 1));
        Check.same("new", "2b:20/0/10", Check.pieceLine(forge, 2));
        forge.putIn(2);
        Check.same("in the furnace", "2b:20/0/10*", Check.pieceLine(forge, 2));
        while (forge.stages(1) < 10) {
            forge.hammer(1, 0);
        }
        forge.quench(1);
        Check.same("quenched", "1w:20/10/53q", Check.pieceLine(forge, 1));
        forge.test(1);
        Check.same("passed", "1w:20/10/53q+", Check.pieceLine(forge, 1));
        forge.putIn(1);
        Check.same("in the furnace again", "1w:20/10/53*q+", Check.pieceLine(forge, 1));
        forge.takeOut(2);
        while (forge.temperature(2) < 700) {
            forge.takeOut(forge.isInFurnace(2) ? 2 : 1);
            forge.putIn(2);
            Check.blow(forge, 5);
        }
        forge.takeOut(2);
        forge.quench(2);
        forge.test(2);
        Check.yes("failed", Check.pieceLine(forge, 2).endsWith("q-"));
        forge.putIn(2);
        Check.yes("failed, in the furnace", Check.pieceLine(forge, 2).endsWith("*q-"));
        Check.refused("no such piece", NoSuchElementException.class, () -> forge.writePiece(3));
        Check.same("the line stays", '2', forge.outputAt(0));
        highNumber();
    }

    private static void highNumber() {
        BirdForge forge = new BirdForge();
        for (int i = 1; i <= 120; i++) {
            forge.addPiece('n');
            if (i < 120) {
                forge.scrap(i);
            }
        }
        Check.same("three digits", "120n:20/0/10", Check.pieceLine(forge, 120));
    }

    private static void furnace() {
        BirdForge forge = new BirdForge();
        Check.same("length", 7, forge.writeFurnace());
        Check.same("new", "20@0#20", Check.furnaceLine(forge));
        for (char kind : "bnww".toCharArray()) {
            forge.addPiece(kind);
        }
        forge.putIn(4);
        forge.putIn(1);
        forge.setBellows(3);
        forge.advance(2);
        Check.same("ascending numbers", "132@3#14 1 4", Check.furnaceLine(forge));
        forge.putIn(3);
        Check.same("longest", 14, forge.writeFurnace());
        forge.scrap(1);
        forge.scrap(3);
        forge.takeOut(4);
        Check.same("shorter again", "132@3#14", Check.furnaceLine(forge));
    }

    private static void outputAt() {
        BirdForge forge = new BirdForge();
        Check.refused("empty line", IndexOutOfBoundsException.class, () -> forge.outputAt(0));
        forge.writeFurnace();
        forge.addCoal(1);
        forge.undo();
        for (int index : new int[] {-1, 7, Integer.MIN_VALUE, Integer.MAX_VALUE}) {
            Check.refused("index " + index, IndexOutOfBoundsException.class, () -> forge.outputAt(index));
        }
        Check.same("first", '2', forge.outputAt(0));
        Check.same("last", '0', forge.outputAt(6));
        forge.addPiece('b');
        Check.same("the line is as it was written", '@', forge.outputAt(2));
        forge.writePiece(1);
        Check.same("replaced", ':', forge.outputAt(2));
    }
}
