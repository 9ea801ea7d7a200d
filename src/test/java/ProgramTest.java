import java.util.NoSuchElementException;

/** Promises 45 to 48. */
public final class ProgramTest {
    public static void main(String[] args) {
        append();
        commands();
        wholeBird();
        errors();
        failures();
        limits();
        stored();
        Check.finish();
    }

    private static void append() {
        BirdForge forge = new BirdForge();
        for (int i = 1; i <= 60; i++) {
            Check.same("append", i, forge.append((char) (i * 1000)));
        }
        Check.refused("append to a full buffer", IllegalStateException.class, () -> forge.append('c'));
        Check.refused("no program", IllegalArgumentException.class, forge::run);
        Check.same("error position", 0, forge.errorPosition());
        Check.same("buffer is empty", 1, forge.append('\0'));
    }

    private static void commands() {
        BirdForge forge = new BirdForge();
        works(forge, "coal 5", 1, "0 20 0 25 0 0 0 0 ArithmeticException");
        works(forge, "coal 50;bellows 3", 2, "0 20 3 75 0 0 0 0 ArithmeticException");
        works(forge, "wait 1", 1, "1 77 3 72 0 0 0 3 ArithmeticException");
        works(forge, "piece b;piece n;piece w", 3, "1 77 3 72 0"
                + " |1b20/0/10falsefalsefalse |2n20/0/10falsefalsefalse |3w20/0/10falsefalsefalse"
                + " 0 0 3 ArithmeticException");
        works(forge, "scrap 2;in 1;in 03;out 1;tool 7", 5, "1 77 3 72 1"
                + " |1b20/0/10falsefalsefalse |3w20/0/10truefalsefalse !7/0 0 0 3 ArithmeticException");
        BirdForge hot = Check.withPieceAt(900, "b");
        works(hot, "tool 9;tool 2;hammer 1 1", 3);
        Check.same("hammered", "1b:900/1/12", Check.pieceLine(hot, 1));
        works(hot, "hammer 01 0;quench 1;test 1", 3);
        Check.same("tested", "1b:20/5/51q-", Check.pieceLine(hot, 1));
        Check.same("a failed test is no failed command", 0.0f, hot.passShare());
    }

    private static void wholeBird() {
        BirdForge forge = new BirdForge();
        forge.addHammer(9);
        for (char kind : "wbnw".toCharArray()) {
            forge.addPiece(kind);
        }
        Check.make(forge, 1, 2, 3, 4);
        works(forge, "bird 2 3 04 1", 1);
        Check.same("birds", 1, forge.birdTotal());
        Check.same("no pieces", 0, forge.pieceCount());
    }

    private static void works(BirdForge forge, String text, int count) {
        Check.same(text, String.valueOf(count), Check.runOutcome(forge, text));
        Check.same("buffer is empty after " + text, 1, forge.append('x'));
        Check.outcome(forge::run);
    }

    private static void works(BirdForge forge, String text, int count, String due) {
        works(forge, text, count);
        Check.same("after " + text, due, Check.everything(forge));
    }

    private static void errors() {
        wrongAt("", 0);
        wrongAt("x", 0);
        wrongAt(" coal 1", 0);
        wrongAt(";", 0);
        wrongAt("Coal 1", 0);
        wrongAt("c", 1);
        wrongAt("coal", 4);
        wrongAt("coal ", 5);
        wrongAt("coal1", 4);
        wrongAt("coal  1", 5);
        wrongAt("coal x", 5);
        wrongAt("coal 123", 7);
        wrongAt("coal 12 ", 7);
        wrongAt("coal 1 ", 6);
        wrongAt("coal 1;", 7);
        wrongAt("coal 1;;", 7);
        wrongAt("coal 1; coal 1", 7);
        wrongAt("coal -1", 5);
        wrongAt("bi 1", 2);
        wrongAt("bx", 1);
        wrongAt("bellows 12", 9);
        wrongAt("bellows ", 8);
        wrongAt("piece x", 6);
        wrongAt("piece bn", 7);
        wrongAt("piece ", 6);
        wrongAt("tool 12", 6);
        wrongAt("tes", 3);
        wrongAt("text 1", 2);
        wrongAt("to 1", 2);
        wrongAt("tx", 1);
        wrongAt("i", 1);
        wrongAt("im", 1);
        wrongAt("in 1x", 4);
        wrongAt("ou", 2);
        wrongAt("out 1:", 5);
        wrongAt("hammer 1", 8);
        wrongAt("hammer 1 ", 9);
        wrongAt("hammer 12 34", 11);
        wrongAt("hammer 123", 9);
        wrongAt("hammer 1;", 8);
        wrongAt("hammer 1 2 3", 10);
        wrongAt("quench\u00a01", 6);
        wrongAt("quench \u0661", 7);
        wrongAt("test 1/", 6);
        wrongAt("bird 1 2 3", 10);
        wrongAt("bird 1 2 3 ", 11);
        wrongAt("bird 1 2 3 4 5", 12);
        wrongAt("bird 11 22 33 44;", 17);
        wrongAt("bird 1;2", 6);
        wrongAt("scrap a", 6);
        wrongAt("wait 1;wait 2;wai 3", 17);
        wrongAt("wait 1;in 1;coal\u01001", 16);
        wrongAt("coal \u0131", 5);
    }

    private static void wrongAt(String text, int position) {
        BirdForge forge = new BirdForge();
        String before = Check.everything(forge);
        Check.same("<" + text + ">", "IllegalArgumentException", Check.runOutcome(forge, text));
        Check.same("error position of <" + text + ">", position, forge.errorPosition());
        Check.refused("no failed command", NoSuchElementException.class, forge::failedCommand);
        Check.same("nothing changed", before, Check.everything(forge));
        Check.same("buffer is empty", 1, forge.append('c'));
        Check.refused("nothing to undo", IllegalStateException.class, forge::undo);
    }

    private static void failures() {
        failsAt("coal 0", 0);
        failsAt("coal 51", 0);
        failsAt("coal 50;coal 29;coal 1", 2);
        failsAt("bellows 6", 0);
        failsAt("tool 0", 0);
        failsAt("tool 1;tool 1;tool 1;tool 1;tool 1", 4);
        failsAt("in 1", 0);
        failsAt("piece b;in 1;in 1", 2);
        failsAt("piece b;out 1", 1);
        failsAt("piece b;hammer 1 0", 1);
        failsAt("piece b;tool 1;hammer 1 0", 2);
        failsAt("piece b;quench 1", 1);
        failsAt("piece b;test 1", 1);
        failsAt("bird 1 2 3 4", 0);
        failsAt("scrap 0", 0);
        failsAt("piece w;scrap 1;scrap 1", 2);
        failsAt("wait 0", 0);
        failsAt("wait 60;wait 61", 1);
        failsAt("bellows 1;wait 9;wait 00", 2);
    }

    private static void failsAt(String text, int index) {
        BirdForge forge = new BirdForge();
        String before = Check.everything(forge);
        Check.same(text, "UnsupportedOperationException", Check.runOutcome(forge, text));
        Check.same("failed command of " + text, index, forge.failedCommand());
        Check.refused("no error position", NoSuchElementException.class, forge::errorPosition);
        Check.same("nothing changed", before, Check.everything(forge));
        Check.same("buffer is empty", 1, forge.append('c'));
        Check.refused("nothing to undo", IllegalStateException.class, forge::undo);
        Check.same("numbers start with 1", 1, forge.addPiece('b'));
    }

    private static void limits() {
        String twelve = "in 1;in 1;in 1;in 1;in 1;in 1;in 1;in 1;in 1;in 1;in 1;in 1";
        BirdForge forge = new BirdForge();
        forge.addPiece('b');
        Check.same("twelve commands", "UnsupportedOperationException", Check.runOutcome(forge, twelve));
        Check.same("the second one fails", 1, forge.failedCommand());
        Check.same("twelve commands and a ;", "IllegalArgumentException", Check.runOutcome(forge, twelve + ";"));
        Check.same("the text is a prefix", 60, forge.errorPosition());
        String eleven = "in 01;out 1;in 1;out 1;in 1;out 1;in 1;out 1;in 1;out 1;in 1";
        Check.same("just 60 characters", 60, eleven.length());
        Check.same("eleven commands", "11", Check.runOutcome(forge, eleven));
        Check.yes("the last one counts", forge.isInFurnace(1));
        Check.same("grammar before failures", "IllegalArgumentException",
                Check.runOutcome(forge, "wait 0;wait 111"));
        Check.same("its position", 14, forge.errorPosition());
    }

    private static void stored() {
        BirdForge forge = new BirdForge();
        Check.refused("no error position", NoSuchElementException.class, forge::errorPosition);
        Check.refused("no failed command", NoSuchElementException.class, forge::failedCommand);
        Check.runOutcome(forge, "coal 1;x");
        Check.runOutcome(forge, "coal 1;coal 0");
        Check.runOutcome(forge, "coal 1");
        Check.same("error position stays", 7, forge.errorPosition());
        Check.same("failed command stays", 1, forge.failedCommand());
        Check.runOutcome(forge, "y");
        Check.runOutcome(forge, "wait 0");
        Check.same("last error position", 0, forge.errorPosition());
        Check.same("last failed command", 0, forge.failedCommand());
    }
}
