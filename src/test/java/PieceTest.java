import java.util.NoSuchElementException;

/** Promises 5, 7, 8, 10 to 13, 21 to 30 and 32 to 34. */
public final class PieceTest {
    public static void main(String[] args) {
        addPiece();
        putIn();
        takeOut();
        quench();
        test();
        testHardness();
        assemble();
        assembleOrder();
        scrap();
        queries();
        cooling();
        ranks();
        Check.finish();
    }

    private static void addPiece() {
        BirdForge forge = new BirdForge();
        for (char kind : new char[] {'a', 'B', 'x', 0, (char) ('b' + 256), '\uffff'}) {
            Check.refused("kind " + (int) kind, IllegalArgumentException.class, () -> forge.addPiece(kind));
        }
        String kinds = "bnwwnbwb";
        for (int i = 0; i < 8; i++) {
            Check.same("number", i + 1, forge.addPiece(kinds.charAt(i)));
            Check.same("kind", kinds.charAt(i), forge.kind(i + 1));
        }
        Check.refused("ninth piece", IllegalStateException.class, () -> forge.addPiece('b'));
        Check.refused("argument before state", IllegalArgumentException.class, () -> forge.addPiece('c'));
        Check.same("as new", "3w:20/0/10", Check.pieceLine(forge, 3));
        forge.scrap(8);
        Check.same("numbers are not used twice", 9, forge.addPiece('n'));
        reusedPlaceIsNew();
    }

    private static void reusedPlaceIsNew() {
        BirdForge forge = new BirdForge();
        forge.addHammer(9);
        forge.addPiece('w');
        Check.make(forge, 1);
        forge.putIn(1);
        forge.advance(1);
        forge.scrap(1);
        forge.addPiece('b');
        Check.same("a new piece has nothing of a scrapped one", "2b:20/0/10", Check.pieceLine(forge, 2));
        Check.same("not passed", false, forge.hasPassed(2));
    }

    private static void putIn() {
        BirdForge forge = new BirdForge();
        Check.refused("putIn without pieces", NoSuchElementException.class, () -> forge.putIn(1));
        for (int i = 0; i < 4; i++) {
            forge.addPiece('w');
        }
        for (int number : new int[] {0, -1, 5, Integer.MIN_VALUE, Integer.MAX_VALUE}) {
            Check.refused("putIn " + number, NoSuchElementException.class, () -> forge.putIn(number));
        }
        Check.same("one in", 1, forge.putIn(2));
        Check.refused("already in", IllegalStateException.class, () -> forge.putIn(2));
        Check.same("two in", 2, forge.putIn(4));
        Check.same("three in", 3, forge.putIn(1));
        Check.refused("furnace is full", IllegalStateException.class, () -> forge.putIn(3));
        Check.refused("no piece before state", NoSuchElementException.class, () -> forge.putIn(9));
        Check.same("which are in", "20@0#20 1 2 4", Check.furnaceLine(forge));
    }

    private static void takeOut() {
        BirdForge forge = new BirdForge();
        Check.refused("takeOut without pieces", NoSuchElementException.class, () -> forge.takeOut(1));
        forge.addPiece('w');
        Check.refused("on the bench", IllegalStateException.class, () -> forge.takeOut(1));
        forge.putIn(1);
        forge.setBellows(5);
        forge.advance(2);
        Check.same("its temperature", 83, forge.takeOut(1));
        Check.same("on the bench now", false, forge.isInFurnace(1));
        Check.refused("on the bench again", IllegalStateException.class, () -> forge.takeOut(1));
    }

    private static void quench() {
        BirdForge at700 = Check.withPieceAt(700, "b");
        Check.refused("no such piece", NoSuchElementException.class, () -> at700.quench(2));
        Check.same("hardness 10 + 100 / 8", 22, at700.quench(1));
        Check.same("cold and quenched", "1b:20/0/22q", Check.pieceLine(at700, 1));
        Check.refused("twice", IllegalStateException.class, () -> at700.quench(1));
        BirdForge at699 = Check.withPieceAt(699, "b");
        Check.refused("699 degrees", UnsupportedOperationException.class, () -> at699.quench(1));
        Check.same("unchanged", "1b:699/0/10", Check.pieceLine(at699, 1));
        at699.putIn(1);
        Check.refused("in the furnace", IllegalStateException.class, () -> at699.quench(1));
        BirdForge at711 = Check.withPieceAt(711, "b");
        Check.same("hardness rounds down", 10 + 13, at711.quench(1));
        hardest();
    }

    private static void hardest() {
        BirdForge forge = new BirdForge();
        forge.addPiece('n');
        for (int i = 0; i < 2; i++) {
            forge.addHammer(1);
        }
        int strokes = 0;
        while (strokes < 9) {
            forge.putIn(1);
            while (forge.temperature(1) < 1090) {
                Check.blow(forge, 5);
            }
            forge.takeOut(1);
            while (forge.temperature(1) > 650 && strokes < 9) {
                if (forge.temperature(1) <= 1100 && forge.stages(1) < 10) {
                    forge.hammer(1, 0);
                }
                strokes++;
                forge.advance(1);
            }
        }
        forge.putIn(1);
        while (forge.temperature(1) < 1120) {
            Check.blow(forge, 5);
        }
        forge.takeOut(1);
        int due = Math.min(99, forge.hardness(1) + (forge.temperature(1) - 600) / 8);
        Check.same("quenched hard", due, forge.quench(1));
        Check.yes("harder than a test allows", due > 70);
    }

    private static void test() {
        BirdForge forge = new BirdForge();
        forge.addHammer(9);
        forge.addPiece('w');
        Check.refused("no such piece", NoSuchElementException.class, () -> forge.test(2));
        Check.refused("not quenched", IllegalStateException.class, () -> forge.test(1));
        Check.make(forge, 1);
        Check.same("passed", "1w:20/10/51q+", Check.pieceLine(forge, 1));
        Check.refused("tested already", IllegalStateException.class, () -> forge.test(1));
        forge.putIn(1);
        Check.refused("in the furnace", IllegalStateException.class, () -> forge.test(1));
        testTemperature(60, "false");
        testTemperature(61, "UnsupportedOperationException");
        failsByStages();
    }

    /** A quenched, untested piece is heated in the furnace and cooled to just this temperature. */
    private static void testTemperature(int degrees, String due) {
        for (int level = 0; level <= 5; level++) {
            BirdForge forge = Check.withPieceAt(700, "w");
            forge.quench(1);
            Check.coolFurnace(forge, 150);
            forge.putIn(1);
            for (int minute = 0; minute < 20 && forge.isQuenched(1); minute++) {
                if (Check.coolsTo(forge, 1, degrees)) {
                    String before = Check.pieceLine(forge, 1);
                    Check.same("test at " + degrees, due, Check.outcome(() -> forge.test(1)));
                    Check.same("tested at " + degrees, before + (degrees <= 60 ? "-" : ""),
                            Check.pieceLine(forge, 1));
                    return;
                }
                Check.blow(forge, level);
            }
        }
        Check.same("a run to " + degrees, "found", "not found");
    }

    private static void failsByStages() {
        BirdForge forge = Check.withPieceAt(900, "w");
        forge.quench(1);
        Check.same("hard enough, but no stages", false, forge.test(1));
        Check.same("failed", "1w:20/0/47q-", Check.pieceLine(forge, 1));
        Check.same("has not passed", false, forge.hasPassed(1));
        Check.refused("tested already", IllegalStateException.class, () -> forge.test(1));
    }

    /** The hardness after the strokes, two for each, and the quenching decides. */
    private static void testHardness() {
        testedAt(768, 4, 39, false);
        testedAt(776, 4, 40, true);
        testedAt(1048, 2, 70, true);
        testedAt(1056, 2, 71, false);
    }

    private static void testedAt(int degrees, int strokes, int hardness, boolean due) {
        BirdForge forge = Check.withPieceAt(degrees, "b");
        forge.addHammer(9);
        while (forge.stages(1) < 10) {
            forge.hammer(1, 0);
        }
        Check.same("strokes at " + degrees, strokes, forge.strokeTotal());
        Check.same("hardness from " + degrees, hardness, forge.quench(1));
        Check.same("test with hardness " + hardness, due, forge.test(1));
        Check.same("has passed with " + hardness, due, forge.hasPassed(1));
    }

    private static void assemble() {
        BirdForge forge = new BirdForge();
        forge.addHammer(9);
        for (char kind : "wbnww".toCharArray()) {
            forge.addPiece(kind);
        }
        Check.make(forge, 1, 2, 3, 5);
        Check.refused("untested wing", IllegalStateException.class, () -> forge.assemble(2, 3, 1, 4));
        Check.refused("untested other wing", IllegalStateException.class, () -> forge.assemble(2, 3, 4, 1));
        Check.refused("the same wing", IllegalArgumentException.class, () -> forge.assemble(2, 3, 5, 5));
        Check.refused("kinds", IllegalArgumentException.class, () -> forge.assemble(3, 2, 5, 1));
        forge.putIn(5);
        Check.refused("in the furnace", IllegalStateException.class, () -> forge.assemble(2, 3, 1, 5));
        forge.takeOut(5);
        Check.same("all five are left", 5, forge.pieceCount());
        Check.same("first bird", 1, forge.assemble(2, 3, 5, 1));
        Check.same("one piece is left", 1, forge.pieceCount());
        Check.same("piece 4 is left", 4, forge.pieceAt(0));
        Check.same("birds", 1, forge.birdTotal());
        Check.refused("used up", NoSuchElementException.class, () -> forge.assemble(2, 3, 5, 1));
    }

    private static void assembleOrder() {
        BirdForge forge = new BirdForge();
        for (char kind : "bnwwb".toCharArray()) {
            forge.addPiece(kind);
        }
        for (int place = 0; place < 4; place++) {
            int[] four = {1, 2, 3, 4};
            four[place] = 9;
            refusedBird(forge, NoSuchElementException.class, four);
            four[place] = place == 0 ? 2 : 1;
            refusedBird(forge, IllegalArgumentException.class, four);
        }
        refusedBird(forge, NoSuchElementException.class, 2, 1, 9, 9);
        refusedBird(forge, IllegalArgumentException.class, 1, 2, 4, 4);
        refusedBird(forge, IllegalStateException.class, 1, 2, 3, 4);
        eachMustHavePassed();
    }

    private static void eachMustHavePassed() {
        for (int missing = 1; missing <= 4; missing++) {
            BirdForge forge = new BirdForge();
            forge.addHammer(9);
            for (char kind : "bnww".toCharArray()) {
                forge.addPiece(kind);
            }
            for (int piece = 1; piece <= 4; piece++) {
                if (piece != missing) {
                    Check.make(forge, piece);
                }
            }
            refusedBird(forge, IllegalStateException.class, 1, 2, 3, 4);
            Check.make(forge, missing);
            forge.putIn(missing);
            refusedBird(forge, IllegalStateException.class, 1, 2, 3, 4);
            forge.takeOut(missing);
            Check.same("a bird", 1, forge.assemble(1, 2, 3, 4));
            Check.same("nothing is left", 0, forge.pieceCount());
        }
    }

    private static void refusedBird(BirdForge forge, Class<? extends RuntimeException> due, int... four) {
        Check.refused("bird " + four[0] + four[1] + four[2] + four[3], due,
                () -> forge.assemble(four[0], four[1], four[2], four[3]));
    }

    private static void scrap() {
        BirdForge forge = new BirdForge();
        Check.refused("scrap without pieces", NoSuchElementException.class, () -> forge.scrap(0));
        for (char kind : "bnw".toCharArray()) {
            forge.addPiece(kind);
        }
        forge.putIn(2);
        Check.same("scrap from the furnace", 2, forge.scrap(2));
        Check.same("furnace is empty", 0, forge.piecesInFurnace());
        Check.refused("scrap twice", NoSuchElementException.class, () -> forge.scrap(2));
        Check.same("first stays", 'b', forge.kind(1));
        Check.same("third stays", 'w', forge.kind(3));
        Check.same("scrap the first", 1, forge.scrap(1));
        Check.same("scrap the last", 0, forge.scrap(3));
    }

    private static void queries() {
        BirdForge forge = new BirdForge();
        for (int i = 1; i <= 8; i++) {
            forge.addPiece('n');
            Check.same("pieceCount", i, forge.pieceCount());
        }
        for (int number : new int[] {3, 1, 6}) {
            forge.scrap(number);
        }
        forge.addPiece('w');
        int[] numbers = {2, 4, 5, 7, 8, 9};
        for (int i = 0; i < numbers.length; i++) {
            Check.same("pieceAt " + i, numbers[i], forge.pieceAt(i));
            Check.yes("exists " + numbers[i], forge.exists(numbers[i]));
        }
        for (int position : new int[] {-1, 6, 8, Integer.MIN_VALUE, Integer.MAX_VALUE}) {
            Check.refused("pieceAt " + position, IndexOutOfBoundsException.class, () -> forge.pieceAt(position));
        }
        for (int number : new int[] {0, -1, 1, 3, 6, 10, Integer.MIN_VALUE, Integer.MAX_VALUE}) {
            Check.same("exists " + number, false, forge.exists(number));
            missing(forge, number);
        }
        BirdForge hot = Check.withPieceAt(900, "b");
        hot.addHammer(2);
        hot.hammer(1, 0);
        Check.same("state", "900/1/12 false false false", state(hot));
        hot.putIn(1);
        Check.same("in the furnace", "900/1/12 true false false", state(hot));
        hot.takeOut(1);
        hot.quench(1);
        Check.same("quenched", "20/1/49 false true false", state(hot));
    }

    private static String state(BirdForge forge) {
        return forge.temperature(1) + "/" + forge.stages(1) + "/" + forge.hardness(1) + " " + forge.isInFurnace(1)
                + " " + forge.isQuenched(1) + " " + forge.hasPassed(1);
    }

    private static void missing(BirdForge forge, int number) {
        Class<NoSuchElementException> due = NoSuchElementException.class;
        Check.refused("kind", due, () -> forge.kind(number));
        Check.refused("temperature", due, () -> forge.temperature(number));
        Check.refused("stages", due, () -> forge.stages(number));
        Check.refused("hardness", due, () -> forge.hardness(number));
        Check.refused("isInFurnace", due, () -> forge.isInFurnace(number));
        Check.refused("isQuenched", due, () -> forge.isQuenched(number));
        Check.refused("hasPassed", due, () -> forge.hasPassed(number));
        Check.refused("minutesToCool", due, () -> forge.minutesToCool(number, 0));
        Check.refused("minutesToCoolAlone", due, () -> forge.minutesToCoolAlone(number, 0));
        Check.refused("writePiece", due, () -> forge.writePiece(number));
    }

    private static void cooling() {
        BirdForge forge = Check.withPieceAt(900, "b");
        for (int degrees : new int[] {19, -1, 1201, Integer.MIN_VALUE, Integer.MAX_VALUE}) {
            Check.refused("cool to " + degrees, IllegalArgumentException.class,
                    () -> forge.minutesToCool(1, degrees));
            Check.refused("cool alone to " + degrees, IllegalArgumentException.class,
                    () -> forge.minutesToCoolAlone(1, degrees));
        }
        bothCool(forge, 1200, "0");
        bothCool(forge, 900, "0");
        bothCool(forge, 899, "1");
        bothCool(forge, 790, "1");
        bothCool(forge, 789, "2");
        bothCool(forge, 26, "IllegalStateException");
        bothCool(forge, 20, "IllegalStateException");
        forge.setBellows(0);
        forge.putIn(1);
        for (int degrees = 20; degrees <= 1200; degrees += 7) {
            followed(forge, degrees);
        }
        longestWait();
    }

    private static void bothCool(BirdForge forge, int degrees, String due) {
        Check.same("cool to " + degrees, due, Check.outcome(() -> forge.minutesToCool(1, degrees)));
        Check.same("cool alone to " + degrees, due, Check.outcome(() -> forge.minutesToCoolAlone(1, degrees)));
    }

    /** Compares with minutes that do pass, which are undone by restore. */
    private static void followed(BirdForge forge, int degrees) {
        String before = Check.everything(forge);
        String got = Check.outcome(() -> forge.minutesToCool(1, degrees));
        String alone = Check.outcome(() -> forge.minutesToCoolAlone(1, degrees));
        Check.same("asking changes nothing", before, Check.everything(forge));
        forge.save();
        int minutes = 0;
        while (forge.temperature(1) > degrees && minutes <= 200) {
            forge.advance(1);
            minutes++;
        }
        forge.restore();
        String due = minutes > 200 ? "IllegalStateException" : String.valueOf(minutes);
        Check.same("cool in the furnace to " + degrees, due, got);
        Check.same("cool alone in the furnace to " + degrees, due, alone);
    }

    /** A furnace that is kept hot by the coal makes the wait long. */
    private static void longestWait() {
        BirdForge forge = Check.withPieceAt(300, "b");
        forge.putIn(1);
        forge.setBellows(0);
        forge.advance(60);
        while (forge.coal() < 99) {
            forge.addCoal(1);
        }
        forge.setBellows(1);
        forge.advance(10);
        String minutes = Check.outcome(() -> forge.minutesToCool(1, 43));
        Check.yes("more than 140 minutes, not " + minutes, Integer.parseInt(minutes) > 140);
        followed(forge, 43);
        followed(forge, 42);
        followed(forge, 41);
    }

    private static void ranks() {
        BirdForge forge = Check.withPieceAt(900, "bnwwb");
        forge.addHammer(9);
        Check.same("equal pieces by number", "12345", ranking(forge));
        forge.hammer(1, 0);
        Check.same("hardest first", "12345", ranking(forge));
        forge.putIn(5);
        while (forge.temperature(5) < 700) {
            Check.blow(forge, 5);
        }
        forge.takeOut(5);
        forge.addHammer(1);
        forge.hammer(5, 1);
        Check.same("same hardness", forge.hardness(1), forge.hardness(5));
        Check.yes("more stages", forge.stages(1) > forge.stages(5));
        Check.same("by stages", "15234", ranking(forge));
        forge.hammer(5, 1);
        Check.same("by hardness before stages", "51234", ranking(forge));
        for (int rank : new int[] {-1, 5, 8, Integer.MIN_VALUE, Integer.MAX_VALUE}) {
            Check.refused("rank " + rank, IndexOutOfBoundsException.class, () -> forge.pieceAtRank(rank));
        }
        moreStagesLater();
    }

    private static void moreStagesLater() {
        BirdForge forge = Check.withPieceAt(900, "bn");
        forge.addHammer(1);
        forge.addHammer(9);
        forge.hammer(1, 0);
        forge.putIn(2);
        while (forge.temperature(2) < 800) {
            Check.blow(forge, 5);
        }
        forge.takeOut(2);
        forge.hammer(2, 1);
        Check.same("same hardness", forge.hardness(1), forge.hardness(2));
        Check.same("stages before number", "21", ranking(forge));
    }

    private static String ranking(BirdForge forge) {
        StringBuilder text = new StringBuilder();
        for (int i = 0; i < forge.pieceCount(); i++) {
            text.append(forge.pieceAtRank(i));
        }
        return text.toString();
    }
}
