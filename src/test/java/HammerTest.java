import java.util.NoSuchElementException;

/** Promises 6, 9, 31 and 35 to 38. */
public final class HammerTest {
    public static void main(String[] args) {
        addHammer();
        hammering();
        temperatures();
        states();
        stroke();
        wornOut();
        heaviest();
        Check.finish();
    }

    private static void addHammer() {
        BirdForge forge = new BirdForge();
        Check.same("no hammers", 0, forge.hammerCount());
        for (int weight : new int[] {0, 10, -1, Integer.MIN_VALUE, Integer.MAX_VALUE}) {
            Check.refused("weight " + weight, IllegalArgumentException.class, () -> forge.addHammer(weight));
        }
        int[] weights = {9, 1, 5, 5};
        for (int i = 0; i < 4; i++) {
            Check.same("index", i, forge.addHammer(weights[i]));
            Check.same("count", i + 1, forge.hammerCount());
        }
        for (int i = 0; i < 4; i++) {
            Check.same("weight", weights[i], forge.weight(i));
            Check.same("wear", 0, forge.wear(i));
        }
        Check.refused("fifth hammer", IllegalStateException.class, () -> forge.addHammer(1));
        Check.refused("argument before state", IllegalArgumentException.class, () -> forge.addHammer(0));
        BirdForge two = new BirdForge();
        two.addHammer(1);
        two.addHammer(2);
        for (int index : new int[] {-1, 2, 4, Integer.MIN_VALUE, Integer.MAX_VALUE}) {
            Check.refused("weight of " + index, IndexOutOfBoundsException.class, () -> two.weight(index));
            Check.refused("wear of " + index, IndexOutOfBoundsException.class, () -> two.wear(index));
        }
    }

    private static void hammering() {
        BirdForge forge = Check.withPieceAt(900, "b");
        forge.addHammer(2);
        forge.addHammer(9);
        Check.same("light: 1 + 800 / 1000", 1, forge.hammer(1, 0));
        Check.same("heavy: 1 + 3600 / 1000", 5, forge.hammer(1, 1));
        Check.same("heavy again", 9, forge.hammer(1, 1));
        Check.same("not above 10", 10, forge.hammer(1, 1));
        Check.same("hardness", 18, forge.hardness(1));
        Check.same("temperature stays", 900, forge.temperature(1));
        Check.same("wear", "1 3", forge.wear(0) + " " + forge.wear(1));
        Check.same("strokes", 4, forge.strokeTotal());
        Check.refused("10 stages", IllegalStateException.class, () -> forge.hammer(1, 0));
        Check.same("no stroke", 4, forge.strokeTotal());
    }

    private static void temperatures() {
        struckAt(599, "UnsupportedOperationException");
        struckAt(600, "1");
        struckAt(1100, "6");
        struckAt(1101, "UnsupportedOperationException");
    }

    private static void struckAt(int degrees, String due) {
        BirdForge forge = Check.withPieceAt(degrees, "b");
        forge.addHammer(9);
        Check.same("hammer at " + degrees, due, Check.outcome(() -> forge.hammer(1, 0)));
    }

    private static void states() {
        BirdForge forge = new BirdForge();
        forge.addPiece('b');
        Check.refused("no piece before no hammer", NoSuchElementException.class, () -> forge.hammer(2, 0));
        Check.refused("no hammer", IndexOutOfBoundsException.class, () -> forge.hammer(1, 0));
        forge.putIn(1);
        Check.refused("no hammer before state", IndexOutOfBoundsException.class, () -> forge.hammer(1, -1));
        forge.addHammer(1);
        Check.refused("in the furnace, before its temperature", IllegalStateException.class,
                () -> forge.hammer(1, 0));
        forge.takeOut(1);
        Check.refused("cold", UnsupportedOperationException.class, () -> forge.hammer(1, 0));
        BirdForge hot = Check.withPieceAt(700, "b");
        hot.addHammer(1);
        Check.refused("hammer 1 of one", IndexOutOfBoundsException.class, () -> hot.hammer(1, 1));
        hot.quench(1);
        Check.refused("quenched, before its temperature", IllegalStateException.class, () -> hot.hammer(1, 0));
        Check.same("unchanged", "1b:20/0/22q", Check.pieceLine(hot, 1));
        Check.same("no wear", 0, hot.wear(0));
    }

    private static void stroke() {
        strokeAt(900, 9, 4);
        strokeAt(1100, 9, 6);
        strokeAt(1110, 9, 6);
        strokeAt(611, 9, 1);
        strokeAt(612, 9, 2);
        strokeAt(624, 8, 1);
        strokeAt(625, 8, 2);
        strokeAt(500, 9, 1);
        strokeAt(499, 9, 1);
        strokeAt(20, 9, 1);
        strokeAt(900, 1, 1);
        BirdForge forge = Check.withPieceAt(900, "b");
        forge.addHammer(9);
        forge.hammer(1, 0);
        forge.hammer(1, 0);
        Check.same("two stages are missing", 2, forge.stroke(1, 0));
        forge.hammer(1, 0);
        Check.same("no stage is missing", 0, forge.stroke(1, 0));
        forge.putIn(1);
        Check.same("also if it is not allowed", 0, forge.stroke(1, 0));
        Check.refused("no piece before no hammer", NoSuchElementException.class, () -> forge.stroke(2, 1));
        Check.refused("no hammer", IndexOutOfBoundsException.class, () -> forge.stroke(1, 1));
        Check.refused("no hammer", IndexOutOfBoundsException.class, () -> forge.stroke(1, -1));
    }

    private static void strokeAt(int degrees, int weight, int due) {
        BirdForge forge = degrees == 20 ? new BirdForge() : Check.withPieceAt(degrees, "b");
        if (degrees == 20) {
            forge.addPiece('b');
        }
        forge.addHammer(weight);
        Check.same("stroke of " + weight + " at " + degrees, due, forge.stroke(1, 0));
        forge.putIn(1);
        Check.same("stroke in the furnace", due, forge.stroke(1, 0));
    }

    private static void wornOut() {
        BirdForge forge = Check.withPieceAt(1000, "bnw");
        forge.addHammer(1);
        forge.addHammer(9);
        for (int i = 0; i < 20; i++) {
            int piece = 1 + i / 10;
            while (forge.temperature(piece) < 700) {
                forge.putIn(piece);
                while (forge.temperature(piece) < 900) {
                    Check.blow(forge, 5);
                }
                forge.takeOut(piece);
            }
            Check.same("wear", i, forge.wear(0));
            Check.same("one stage each", i % 10 + 1, forge.hammer(piece, 0));
        }
        Check.same("worn out", 20, forge.wear(0));
        Check.refused("worn out, before the temperature", IllegalStateException.class, () -> forge.hammer(3, 0));
        Check.same("the other one is best", 1, forge.heaviestHammer());
        Check.refused("the other one is not worn out", UnsupportedOperationException.class,
                () -> forge.hammer(3, 1));
        Check.same("strokes", 20, forge.strokeTotal());
        Check.yes("consistent", forge.isConsistent());
        BirdForge only = wornOutOnly();
        Check.refused("none is left", NoSuchElementException.class, only::heaviestHammer);
    }

    private static BirdForge wornOutOnly() {
        BirdForge forge = Check.withPieceAt(1000, "bn");
        forge.addHammer(1);
        for (int piece = 1; piece <= 2; piece++) {
            if (forge.temperature(piece) < 700) {
                forge.putIn(piece);
                while (forge.temperature(piece) < 900) {
                    Check.blow(forge, 5);
                }
                forge.takeOut(piece);
            }
            for (int i = 0; i < 10; i++) {
                forge.hammer(piece, 0);
            }
        }
        return forge;
    }

    private static void heaviest() {
        BirdForge forge = Check.withPieceAt(900, "b");
        Check.refused("no hammer", NoSuchElementException.class, forge::heaviestHammer);
        forge.addHammer(3);
        Check.same("the only one", 0, forge.heaviestHammer());
        forge.addHammer(5);
        Check.same("the heavier one", 1, forge.heaviestHammer());
        forge.addHammer(5);
        Check.same("the lower index", 1, forge.heaviestHammer());
        forge.hammer(1, 1);
        Check.same("the less worn one", 2, forge.heaviestHammer());
        forge.hammer(1, 2);
        Check.same("the lower index again", 1, forge.heaviestHammer());
        forge.addHammer(4);
        Check.same("weight before wear", 1, forge.heaviestHammer());
    }
}
