/** Calls a method of the face by its name. */
final class Calls {
    private Calls() {
    }

    static Object call(BirdForge forge, String name, int... a) {
        return a.length == 0 ? plain(forge, name) : a.length == 1 ? ofOne(forge, name, a[0]) : ofMore(forge, name, a);
    }

    private static Object plain(BirdForge forge, String name) {
        switch (name) {
            case "save":
                forge.save();
                return "nothing";
            case "restore":
                forge.restore();
                return "nothing";
            default:
                return answer(forge, name);
        }
    }

    private static Object answer(BirdForge forge, String name) {
        return switch (name) {
            case "time" -> forge.time();
            case "furnace" -> forge.furnace();
            case "bellows" -> forge.bellows();
            case "coal" -> forge.coal();
            case "coalMinutes" -> forge.coalMinutes();
            case "piecesInFurnace" -> forge.piecesInFurnace();
            case "pieceCount" -> forge.pieceCount();
            case "hammerCount" -> forge.hammerCount();
            case "heaviestHammer" -> forge.heaviestHammer();
            case "strokeTotal" -> forge.strokeTotal();
            case "birdTotal" -> forge.birdTotal();
            case "burntTotal" -> forge.burntTotal();
            case "meanHardness" -> forge.meanHardness();
            case "passShare" -> forge.passShare();
            case "isConsistent" -> forge.isConsistent();
            case "run" -> forge.run();
            case "errorPosition" -> forge.errorPosition();
            case "failedCommand" -> forge.failedCommand();
            case "writeFurnace" -> forge.writeFurnace();
            case "undo" -> forge.undo();
            default -> throw new AssertionError(name);
        };
    }

    private static Object ofOne(BirdForge forge, String name, int a) {
        return switch (name) {
            case "addCoal" -> forge.addCoal(a);
            case "setBellows" -> forge.setBellows(a);
            case "advance" -> forge.advance(a);
            case "addPiece" -> forge.addPiece((char) a);
            case "addHammer" -> forge.addHammer(a);
            case "putIn" -> forge.putIn(a);
            case "takeOut" -> forge.takeOut(a);
            case "quench" -> forge.quench(a);
            case "test" -> forge.test(a);
            case "scrap" -> forge.scrap(a);
            case "furnaceAfter" -> forge.furnaceAfter(a);
            case "exists" -> forge.exists(a);
            case "pieceAt" -> forge.pieceAt(a);
            case "kind" -> forge.kind(a);
            case "temperature" -> forge.temperature(a);
            case "stages" -> forge.stages(a);
            case "hardness" -> forge.hardness(a);
            case "isInFurnace" -> forge.isInFurnace(a);
            case "isQuenched" -> forge.isQuenched(a);
            case "hasPassed" -> forge.hasPassed(a);
            case "pieceAtRank" -> forge.pieceAtRank(a);
            case "weight" -> forge.weight(a);
            case "wear" -> forge.wear(a);
            case "append" -> forge.append((char) a);
            case "writePiece" -> forge.writePiece(a);
            case "outputAt" -> forge.outputAt(a);
            default -> throw new AssertionError(name);
        };
    }

    private static Object ofMore(BirdForge forge, String name, int... a) {
        return switch (name) {
            case "hammer" -> forge.hammer(a[0], a[1]);
            case "stroke" -> forge.stroke(a[0], a[1]);
            case "minutesToCool" -> forge.minutesToCool(a[0], a[1]);
            case "minutesToCoolAlone" -> forge.minutesToCoolAlone(a[0], a[1]);
            case "assemble" -> forge.assemble(a[0], a[1], a[2], a[3]);
            default -> throw new AssertionError(name);
        };
    }
}
