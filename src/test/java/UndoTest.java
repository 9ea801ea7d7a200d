/** Promises 52 to 54. */
public final class UndoTest {
    public static void main(String[] args) {
        undo();
        everyChangeCounts();
        failuresDoNotCount();
        failuresKeepTheOldest();
        afterUndo();
        outsideTheState();
        saveAndRestore();
        Check.finish();
    }

    private static void undo() {
        BirdForge forge = new BirdForge();
        Check.refused("nothing to undo", IllegalStateException.class, forge::undo);
        String[] states = new String[12];
        for (int i = 0; i < 12; i++) {
            states[i] = Check.everything(forge);
            forge.addCoal(i + 1);
        }
        for (int left = 7; left >= 0; left--) {
            Check.same("left", left, forge.undo());
            Check.same("state", states[4 + left], Check.everything(forge));
        }
        Check.refused("only the 8 most recent ones", IllegalStateException.class, forge::undo);
        Check.same("state stays", states[4], Check.everything(forge));
    }

    private static void everyChangeCounts() {
        BirdForge forge = new BirdForge();
        forge.addHammer(9);
        for (char kind : "bnwwb".toCharArray()) {
            forge.addPiece(kind);
        }
        undone(forge, () -> forge.addCoal(1));
        undone(forge, () -> forge.setBellows(0));
        undone(forge, () -> forge.advance(1));
        undone(forge, () -> forge.addPiece('w'));
        undone(forge, () -> forge.addHammer(3));
        undone(forge, () -> forge.putIn(5));
        forge.putIn(5);
        undone(forge, () -> forge.takeOut(5));
        while (forge.temperature(5) < 880) {
            Check.blow(forge, 5);
        }
        forge.takeOut(5);
        undone(forge, () -> forge.hammer(5, 0));
        undone(forge, () -> forge.quench(5));
        forge.quench(5);
        undone(forge, () -> forge.test(5));
        undone(forge, () -> forge.scrap(2));
        undone(forge, () -> Check.runOutcome(forge, "piece n;scrap 1;scrap 6;bellows 2;wait 3"));
        Check.make(forge, 1, 2, 3, 4);
        undone(forge, () -> forge.assemble(1, 2, 3, 4));
        Check.same("no bird is left", 0, forge.birdTotal());
        Check.same("all four have passed", 1.0f, forge.passShare());
        forge.setBellows(5);
        forge.advance(2);
        undone(forge, () -> forge.addCoal(1));
        Check.yes("consistent after undo", forge.isConsistent());
        passedTestUndone();
    }

    private static void passedTestUndone() {
        BirdForge forge = new BirdForge();
        forge.addHammer(9);
        forge.addPiece('b');
        forge.addPiece('n');
        Check.make(forge, 1, 2);
        forge.undo();
        Check.same("not passed any more", false, forge.hasPassed(2));
        Check.same("one test", 1.0f, forge.passShare());
        Check.yes("passes again", forge.test(2));
        Check.same("two tests", 1.0f, forge.passShare());
    }

    private static void undone(BirdForge forge, Check.Call change) {
        String before = Check.everything(forge);
        forge.setBellows(forge.bellows());
        change.answer();
        String after = Check.everything(forge);
        int left = forge.undo();
        Check.same("undone", before, Check.everything(forge));
        change.answer();
        Check.same("again", after, Check.everything(forge));
        Check.same("one call, one undo", left, forge.undo());
    }

    private static void failuresDoNotCount() {
        BirdForge forge = new BirdForge();
        forge.addCoal(1);
        forge.addCoal(2);
        Check.outcome(() -> forge.addCoal(0));
        Check.outcome(() -> forge.putIn(1));
        Check.runOutcome(forge, "coal 1;coal 0");
        Check.runOutcome(forge, "coal 1;coal x");
        forge.furnaceAfter(9);
        forge.isConsistent();
        forge.writeFurnace();
        Check.same("two can be undone", 1, forge.undo());
        Check.same("coal", 21, forge.coal());
    }

    private static void failuresKeepTheOldest() {
        BirdForge forge = new BirdForge();
        for (int i = 0; i < 8; i++) {
            forge.addCoal(1);
        }
        for (int i = 0; i < 20; i++) {
            Check.refused("failing call", IllegalArgumentException.class, () -> forge.addCoal(0));
            Check.runOutcome(forge, "coal 9;coal 0");
        }
        for (int left = 7; left >= 0; left--) {
            Check.same("left", left, forge.undo());
            Check.same("coal", 20 + left, forge.coal());
        }
    }

    private static void afterUndo() {
        BirdForge forge = new BirdForge();
        for (int i = 0; i < 10; i++) {
            forge.addCoal(1);
        }
        forge.undo();
        forge.undo();
        forge.undo();
        Check.same("coal", 27, forge.coal());
        forge.addCoal(10);
        Check.same("five and one can be undone", 5, forge.undo());
        Check.same("coal before", 27, forge.coal());
        forge.addPiece('b');
        forge.undo();
        Check.same("the next number is state too", 1, forge.addPiece('n'));
        Check.same("kind", 'n', forge.kind(1));
    }

    private static void outsideTheState() {
        BirdForge forge = new BirdForge();
        forge.save();
        forge.addCoal(1);
        forge.writeFurnace();
        Check.runOutcome(forge, "x");
        Check.runOutcome(forge, "coal 1;coal 0");
        Check.type(forge, "coal 7");
        forge.undo();
        Check.same("line", "20@0#21", Check.line(forge, 7));
        Check.same("error position", 0, forge.errorPosition());
        Check.same("failed command", 1, forge.failedCommand());
        Check.same("text buffer", 1, forge.run());
        Check.same("ran", 27, forge.coal());
        Check.type(forge, "coal 8");
        forge.restore();
        Check.same("line after restore", "20@0#21", Check.line(forge, 7));
        Check.same("error position after restore", 0, forge.errorPosition());
        Check.same("failed command after restore", 1, forge.failedCommand());
        Check.same("text buffer after restore", 1, forge.run());
        Check.same("ran after restore", 28, forge.coal());
    }

    private static void saveAndRestore() {
        BirdForge forge = Check.withPieceAt(900, "bn");
        BirdForge fresh = new BirdForge();
        Check.refused("nothing was saved", IllegalStateException.class, () -> {
            fresh.restore();
            return "nothing";
        });
        for (int i = 0; i < 8; i++) {
            forge.setBellows(i % 2);
        }
        forge.addHammer(4);
        forge.hammer(1, 0);
        String first = Check.everything(forge);
        forge.save();
        Check.same("saving is no change", 7, forge.undo());
        Check.same("the hammer is new again", 0, forge.wear(0));
        forge.restore();
        Check.same("restored", first, Check.everything(forge));
        Check.refused("nothing to undo after restore", IllegalStateException.class, forge::undo);
        forge.quench(1);
        forge.scrap(2);
        Check.runOutcome(forge, "piece w;tool 9;wait 5");
        forge.restore();
        Check.same("it stays saved", first, Check.everything(forge));
        forge.quench(1);
        String second = Check.everything(forge);
        forge.save();
        forge.scrap(1);
        Check.same("undo after save", 1, forge.undo());
        Check.same("as saved", second, Check.everything(forge));
        forge.scrap(1);
        forge.restore();
        Check.same("the newer one is restored", second, Check.everything(forge));
        Check.yes("consistent", forge.isConsistent());
        forge.addPiece('w');
        Check.same("one change since", 0, forge.undo());
    }
}
