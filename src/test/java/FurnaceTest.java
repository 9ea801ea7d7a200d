/** Promises 1 to 4 and 14 to 20, and the minute's steps for furnace and pieces. */
public final class FurnaceTest {
    public static void main(String[] args) {
        newForge();
        addCoal();
        setBellows();
        advance();
        furnaceMinute();
        furnaceLimit();
        pieceMinute();
        tempering();
        queries();
        furnaceAfter();
        Check.finish();
    }

    private static void newForge() {
        BirdForge forge = new BirdForge();
        Check.same("new: all", "0 20 0 20 0 0 0 0 ArithmeticException", Check.everything(forge));
        Check.same("new: hammers", 0, forge.hammerCount());
        Check.same("new: pieces", 0, forge.pieceCount());
        Check.yes("new: consistent", forge.isConsistent());
        Check.refused("new: line is empty", IndexOutOfBoundsException.class, () -> forge.outputAt(0));
        Check.same("new: buffer is empty", 1, forge.append('c'));
    }

    private static void addCoal() {
        BirdForge forge = new BirdForge();
        for (int units : new int[] {0, -1, 51, Integer.MIN_VALUE, Integer.MAX_VALUE}) {
            Check.refused("addCoal " + units, IllegalArgumentException.class, () -> forge.addCoal(units));
        }
        Check.same("addCoal 1", 21, forge.addCoal(1));
        Check.same("addCoal 50", 71, forge.addCoal(50));
        Check.refused("addCoal to 100", IllegalStateException.class, () -> forge.addCoal(29));
        Check.same("nothing was added", 71, forge.coal());
        Check.same("addCoal to 99", 99, forge.addCoal(28));
        Check.refused("addCoal when full", IllegalStateException.class, () -> forge.addCoal(1));
        Check.refused("argument before state", IllegalArgumentException.class, () -> forge.addCoal(51));
    }

    private static void setBellows() {
        BirdForge forge = new BirdForge();
        Check.same("first level", 0, forge.setBellows(5));
        Check.refused("level -1", IllegalArgumentException.class, () -> forge.setBellows(-1));
        Check.refused("level 6", IllegalArgumentException.class, () -> forge.setBellows(6));
        Check.same("level stays", 5, forge.bellows());
        Check.same("previous level", 5, forge.setBellows(0));
        Check.same("previous level 0", 0, forge.setBellows(3));
    }

    private static void advance() {
        BirdForge forge = new BirdForge();
        for (int minutes : new int[] {0, -1, 61, Integer.MIN_VALUE, Integer.MAX_VALUE}) {
            Check.refused("advance " + minutes, IllegalArgumentException.class, () -> forge.advance(minutes));
        }
        Check.same("no time passed", 0, forge.time());
        forge.setBellows(1);
        Check.same("advance 1", 39, forge.advance(1));
        Check.same("advance 2", 76, forge.advance(2));
        Check.same("advance 60", 56, forge.advance(60));
        Check.same("time", 63, forge.time());
    }

    private static void furnaceMinute() {
        BirdForge forge = new BirdForge();
        forge.setBellows(5);
        Check.same("minute 1", 115, forge.advance(1));
        Check.same("minute 2", 206, forge.advance(1));
        Check.same("coal after two minutes", 10, forge.coal());
        forge.setBellows(4);
        forge.advance(2);
        Check.same("two units are left", 2, forge.coal());
        int hot = forge.furnace();
        Check.same("too little coal", hot - (hot - 20) / 20, forge.advance(1));
        Check.same("level became 0", 0, forge.bellows());
        Check.same("nothing was burnt", 2, forge.coal());
        Check.same("burnt", 18L, forge.burntTotal());
        forge.setBellows(2);
        forge.advance(1);
        Check.same("just enough coal", 0, forge.coal());
        Check.same("level stays without coal until the next minute", 2, forge.bellows());
        forge.advance(1);
        Check.same("level became 0 again", 0, forge.bellows());
    }

    private static void furnaceLimit() {
        BirdForge forge = new BirdForge();
        for (int i = 0; i < 80; i++) {
            Check.blow(forge, 5);
        }
        Check.same("1200 less a twentieth of 1180", 1141, forge.furnace());
        forge.setBellows(0);
        Check.same("cools by 56", 1085, forge.advance(1));
    }

    private static void pieceMinute() {
        BirdForge forge = new BirdForge();
        forge.addPiece('b');
        forge.addPiece('n');
        forge.putIn(1);
        forge.setBellows(5);
        forge.advance(1);
        Check.same("in the furnace at 115", 43, forge.temperature(1));
        Check.same("on the cold bench", 20, forge.temperature(2));
        forge.advance(1);
        Check.same("in the furnace at 206", 83, forge.temperature(1));
        forge.takeOut(1);
        forge.advance(1);
        Check.same("on the bench", 76, forge.temperature(1));
        Check.same("bench stops at 27", 27, coldest(forge));
        hotterThanFurnace();
    }

    private static int coldest(BirdForge forge) {
        forge.advance(60);
        return forge.temperature(1);
    }

    private static void hotterThanFurnace() {
        BirdForge forge = new BirdForge();
        forge.addPiece('b');
        forge.putIn(1);
        for (int i = 0; i < 40; i++) {
            Check.blow(forge, 5);
        }
        forge.takeOut(1);
        forge.setBellows(0);
        forge.advance(5);
        forge.putIn(1);
        forge.setBellows(0);
        for (int i = 0; i < 30; i++) {
            int before = forge.temperature(1);
            int around = forge.advance(1);
            int change = Math.abs(before - around) / 4;
            Check.same("towards the furnace", before < around ? before + change : before - change,
                    forge.temperature(1));
        }
    }

    private static void tempering() {
        temperedAt(199, 0);
        temperedAt(200, 1);
        temperedAt(400, 1);
        temperedAt(401, 0);
        BirdForge forge = quenched();
        forge.putIn(1);
        while (forge.temperature(1) < 700) {
            Check.yes("still quenched", forge.isQuenched(1));
            Check.blow(forge, 5);
        }
        Check.same("soft again", "false 10", forge.isQuenched(1) + " " + forge.hardness(1));
        Check.same("not passed any more", false, forge.hasPassed(1));
        resetAt(699, true);
        resetAt(700, false);
        unquenchedIsNotTempered();
        lowestHardness();
    }

    private static BirdForge quenched() {
        BirdForge forge = new BirdForge();
        forge.addHammer(9);
        forge.addPiece('w');
        Check.make(forge, 1);
        Check.yes("made", forge.hasPassed(1));
        Check.coolFurnace(forge, 100);
        return forge;
    }

    /** Lets a quenched piece come to just this temperature and looks at its hardness around that minute. */
    private static void temperedAt(int degrees, int loss) {
        for (int level = 2; level <= 5; level++) {
            for (int preheating = 0; preheating < 20; preheating++) {
                BirdForge forge = quenched();
                for (int minute = 0; minute < preheating; minute++) {
                    Check.blow(forge, level);
                }
                forge.putIn(1);
                for (int minute = 0; minute < 20 && forge.temperature(1) < 600; minute++) {
                    if (temperedOnBench(forge, degrees, loss)) {
                        return;
                    }
                    Check.blow(forge, level);
                }
            }
        }
        Check.same("a run to " + degrees, "found", "not found");
    }

    private static boolean temperedOnBench(BirdForge forge, int degrees, int loss) {
        forge.save();
        forge.takeOut(1);
        for (int minute = 0; minute < 20; minute++) {
            int before = forge.hardness(1);
            forge.advance(1);
            if (forge.temperature(1) == degrees) {
                Check.yes("still quenched at " + degrees, forge.isQuenched(1));
                Check.same("tempered at " + degrees, before - loss, forge.hardness(1));
                return true;
            }
        }
        forge.restore();
        return false;
    }

    /** Heats a quenched piece until it has just this temperature in the furnace. */
    private static void resetAt(int degrees, boolean stays) {
        for (int level = 3; level <= 5; level++) {
            for (int preheating = 0; preheating < 40; preheating++) {
                BirdForge forge = quenched();
                for (int minute = 0; minute < preheating; minute++) {
                    Check.blow(forge, level);
                }
                forge.putIn(1);
                for (int minute = 0; minute < 40 && forge.temperature(1) < degrees; minute++) {
                    Check.blow(forge, level);
                }
                if (forge.temperature(1) == degrees) {
                    Check.same("quenched at " + degrees, stays, forge.isQuenched(1));
                    Check.same("passed at " + degrees, stays, forge.hasPassed(1));
                    Check.same("hardness 10 at " + degrees, !stays, forge.hardness(1) == 10);
                    return;
                }
            }
        }
        Check.same("a run to " + degrees, "found", "not found");
    }

    private static void unquenchedIsNotTempered() {
        BirdForge forge = Check.withPieceAt(400, "b");
        forge.advance(5);
        Check.same("not quenched, not tempered", 10, forge.hardness(1));
    }

    private static void lowestHardness() {
        BirdForge forge = quenched();
        forge.putIn(1);
        int before = forge.hardness(1);
        for (int minute = 0; minute < 200; minute++) {
            if (forge.furnace() < 300) {
                Check.blow(forge, 2);
            } else {
                forge.setBellows(0);
                forge.advance(1);
            }
            Check.yes("not below 0", forge.hardness(1) >= 0);
        }
        Check.yes("it was hard", before > 40);
        Check.same("hardness ends at 0", "0 true", forge.hardness(1) + " " + forge.isQuenched(1));
    }

    private static void queries() {
        BirdForge forge = new BirdForge();
        Check.refused("coalMinutes at level 0", ArithmeticException.class, forge::coalMinutes);
        forge.setBellows(1);
        Check.same("coalMinutes at level 1", 20, forge.coalMinutes());
        forge.setBellows(3);
        Check.same("coalMinutes", 6, forge.coalMinutes());
        forge.advance(2);
        Check.same("time", 2, forge.time());
        Check.same("furnace", 77 + 60 - 5, forge.furnace());
        Check.same("bellows", 3, forge.bellows());
        Check.same("coal", 14, forge.coal());
        Check.same("coalMinutes", 4, forge.coalMinutes());
        for (int i = 1; i <= 3; i++) {
            forge.addPiece('w');
            Check.same("in the furnace before", i - 1, forge.piecesInFurnace());
            forge.putIn(i);
        }
        Check.same("in the furnace", 3, forge.piecesInFurnace());
        forge.scrap(2);
        Check.same("in the furnace after scrap", 2, forge.piecesInFurnace());
        forge.takeOut(1);
        Check.same("in the furnace after takeOut", 1, forge.piecesInFurnace());
    }

    private static void furnaceAfter() {
        BirdForge forge = new BirdForge();
        forge.setBellows(3);
        Check.refused("furnaceAfter -1", IllegalArgumentException.class, () -> forge.furnaceAfter(-1));
        Check.refused("furnaceAfter 201", IllegalArgumentException.class, () -> forge.furnaceAfter(201));
        int[] due = new int[201];
        for (int i = 0; i <= 200; i++) {
            due[i] = forge.furnaceAfter(i);
        }
        Check.same("furnaceAfter changes nothing", "20@3#20", Check.furnaceLine(forge));
        for (int i = 0; i <= 200; i++) {
            Check.same("furnaceAfter " + i, forge.furnace(), due[i]);
            forge.advance(1);
        }
    }
}
