import java.util.ArrayList;
import java.util.List;

/** The boundary cases of promises 52 to 54, and that no query changes anything. */
public final class UndoBoundsTest {
    private static final Class<IllegalStateException> STATE = IllegalStateException.class;
    private static final String NONE = "IllegalStateException";
    private static final String OTHERS = ", type coal 1;x, try run, type wait 0, try run, writeFurnace, type coal 7";

    public static void main(String[] args) {
        nothingToUndo();
        eightCalls();
        manyTimesRound();
        eachMethodOnce();
        withoutDifference();
        refusedCalls();
        notTheState();
        save();
        restore();
        savedStateStays();
        queries();
        Check.finish();
    }

    private static void nothingToUndo() {
        Bounds.refused("P52: a new forge", "", STATE, "undo");
        Bounds.refused("P52: all is undone", "addCoal 1, addPiece b, undo, undo", STATE, "undo");
        Bounds.refused("P52: refused calls only", "try addCoal 0, try setBellows 6, try undo, try run", STATE, "undo");
        Bounds.refused("P52: queries, save and appended characters only", "furnaceAfter 9, isConsistent, save,"
                + " type coal 1", STATE, "undo");
        Bounds.refused("P52: all 8 are undone", "9 * addCoal 1, 8 * undo", STATE, "undo");
    }

    private static void eightCalls() {
        Bounds.holds("P52: one call", "addCoal 1", "undo = 0, coal = 20, undo = " + NONE + ", coal = 20");
        Bounds.holds("P52: 8 calls", "8 * addCoal 1", "undo = 7, coal = 27, undo = 6, undo = 5, undo = 4, undo = 3,"
                + " undo = 2, undo = 1, coal = 21, undo = 0, coal = 20, undo = " + NONE);
        Bounds.holds("P52: 9 calls", "9 * addCoal 1", "undo = 7, coal = 28, undo = 6, undo = 5, undo = 4, undo = 3,"
                + " undo = 2, undo = 1, coal = 22, undo = 0, coal = 21, undo = " + NONE + ", coal = 21");
        Bounds.holds("P52: a call after an undo", "8 * addCoal 1, 3 * undo, addCoal 9", "undo = 5, coal = 25,"
                + " undo = 4, coal = 24");
        Bounds.holds("P52: an undone call does not come back", "addCoal 1, addCoal 2, undo, addCoal 4", "coal = 25,"
                + " undo = 1, coal = 21, undo = 0, coal = 20, undo = " + NONE);
        Bounds.holds("P52: up to 8 again after an undo", "10 * addCoal 1, 2 * undo, 3 * addCoal 2", "coal = 34,"
                + " undo = 7, coal = 32, undo = 6, coal = 30, undo = 5, coal = 28, undo = 4, coal = 27, undo = 3,"
                + " coal = 26, undo = 2, coal = 25, undo = 1, coal = 24, undo = 0, coal = 23, undo = " + NONE);
    }

    /** Calls and undone calls in all numbers, so that every place for an earlier state is used again. */
    private static void manyTimesRound() {
        for (int calls = 0; calls <= 19; calls++) {
            for (int undone = 0; undone <= 9; undone++) {
                for (int more = 0; more <= 10; more += 5) {
                    round(calls, undone, more);
                }
            }
        }
    }

    private static void round(int calls, int undone, int more) {
        BirdForge forge = new BirdForge();
        List<Integer> past = new ArrayList<>();
        change(forge, past, calls);
        for (int i = 0; i < undone; i++) {
            back(forge, past);
        }
        change(forge, past, more);
        for (int i = 0; i <= 9; i++) {
            back(forge, past);
        }
    }

    private static void change(BirdForge forge, List<Integer> past, int calls) {
        for (int i = 0; i < calls; i++) {
            past.add(forge.coal());
            if (past.size() > 8) {
                past.remove(0);
            }
            forge.addCoal(1 + past.size() % 2);
        }
    }

    private static void back(BirdForge forge, List<Integer> past) {
        if (past.isEmpty()) {
            int coal = forge.coal();
            Check.same("P52: no more", NONE, Check.outcome(forge::undo));
            Check.same("P52: the coal stays", coal, forge.coal());
            return;
        }
        int due = past.remove(past.size() - 1);
        Check.same("P52: how many can still be undone", past.size(), forge.undo());
        Check.same("P52: the coal before", due, forge.coal());
    }

    private static void eachMethodOnce() {
        undone("", "addCoal 5");
        undone("", "setBellows 5");
        undone("addPiece b, putIn 1, setBellows 3", "advance 5");
        undone("8 * addPiece b, scrap 4", "addPiece n");
        undone("3 * addHammer 1", "addHammer 9");
        undone("3 * addPiece b, putIn 1, putIn 2", "putIn 3");
        undone("3 * addPiece b, putIn 1, putIn 2, setBellows 4, advance 3", "takeOut 1");
        undone("addPiece b, addHammer 9, " + Heat.to(900), "hammer 1 0");
        undone("addPiece b, addHammer 9, " + Heat.to(900) + ", hammer 1 0", "quench 1");
        undone("addPiece b, " + Heat.QUENCHED, "test 1");
        undone(Heat.fourPassed() + ", scrap 1, addPiece b, undo, undo, undo", "test 4");
        undone(Heat.fourPassed() + ", addPiece n, putIn 5", "assemble 1 2 4 3");
        undone(Heat.fourPassed() + ", putIn 2, advance 1", "scrap 2");
        undone("addPiece b", "type piece n;bellows 2;in 1;in 2;scrap 1;wait 3;tool 4;coal 5, run");
        undone("addPiece w, 9 * addCoal 1", "type in 1, run");
    }

    /** One call, one undo, and all is as if another call had been made and undone. */
    private static void undone(String script, String call) {
        String state = Check.everything(Script.forgeAfter(script));
        String changed = Check.everything(Script.forgeAfter(script + ", " + call));
        String undone = Check.everything(Script.forgeAfter(script + ", " + call + ", undo"));
        Check.same("P52: a difference by " + call + " after <" + script + ">", false, state.equals(changed));
        Check.same("P52: " + call + " undone after <" + script + ">", state, undone);
        List<String> due = Bounds.seen(() -> Script.forgeAfter(script + ", setBellows 0, undo"));
        List<String> got = Bounds.seen(() -> Script.forgeAfter(script + ", " + call + ", undo"));
        Check.same("P52: nothing is left of " + call + " after <" + script + ">", due, got);
    }

    private static void withoutDifference() {
        Bounds.holds("a call is undone also if nothing is different after it", "addCoal 1, setBellows 0, setBellows 0",
                "undo = 2, coal = 21, undo = 1, coal = 21, undo = 0, coal = 20, undo = " + NONE);
        Bounds.holds("a call is undone also if nothing is different after it", "addCoal 1, type bellows 0, run,"
                + " type bellows 0;bellows 0, run", "undo = 2, coal = 21, undo = 1, undo = 0, coal = 20,"
                + " undo = " + NONE);
        Bounds.holds("8 calls without a difference", "addCoal 1, 8 * setBellows 0", "8 * undo = *,"
                + " undo = " + NONE + ", coal = 21");
    }

    private static void refusedCalls() {
        String[] refused = {"addCoal 0", "setBellows 6", "advance 0", "addPiece x", "addHammer 0", "putIn 9",
                "takeOut 9", "hammer 9 0", "quench 9", "test 9", "assemble 9 9 9 9", "scrap 9", "run"};
        for (String call : refused) {
            Bounds.holds("P52: a refused call cannot be undone", "8 * addCoal 1, 10 * try " + call, "undo = 7,"
                    + " coal = 27, 6 * undo = *, undo = 0, coal = 20, undo = " + NONE);
        }
        Bounds.holds("P52: a failed program cannot be undone", "8 * addCoal 1, type coal 1;wait 0, try run",
                "undo = 7, coal = 27, 6 * undo = *, undo = 0, coal = 20, undo = " + NONE);
    }

    private static void notTheState() {
        String stays = "line = 20@0#21, errorPosition = 7, failedCommand = 0, run = 1";
        Bounds.holds("undo leaves the buffer, the errors and the line", "addCoal 1" + OTHERS + ", undo", stays + ","
                + " coal = 27");
        Bounds.holds("restore leaves the buffer, the errors and the line", "save, addCoal 1" + OTHERS + ", restore",
                stays + ", coal = 27");
        Bounds.holds("save takes none of them along", "addCoal 1, type coal 3, save, try run" + OTHERS + ", restore",
                "errorPosition = 7, failedCommand = 0, run = 1, coal = 28");
        Bounds.holds("undo of run does not fill the buffer", "type coal 7, run, undo", "coal = 20,"
                + " run = IllegalArgumentException, errorPosition = 0");
    }

    private static void save() {
        Bounds.holds("P53: saving is not a changing call", "addCoal 1, save, save", "undo = 0, coal = 20,"
                + " undo = " + NONE);
        Bounds.holds("P53: the last saved state counts", "save, addCoal 1, save, addCoal 1", "restore = nothing,"
                + " coal = 21");
        Bounds.holds("P53: a state that was undone to", "addCoal 1, addCoal 2, undo, save, addCoal 9",
                "restore = nothing, coal = 21");
        Bounds.holds("P53: later calls do not change the saved state", "2 * addPiece b, addHammer 3, putIn 1, save,"
                + " setBellows 5, advance 9, scrap 1, addPiece n, addHammer 9, addCoal 30", "restore = nothing,"
                + " pieceCount = 2, hammerCount = 1, coal = 20, bellows = 0, time = 0, furnace = 20,"
                + " pieceLine 1 = 1b:20/0/10*, pieceLine 2 = 2b:20/0/10, piecesInFurnace = 1, addPiece w = 3,"
                + " burntTotal = 0, isConsistent = true");
    }

    private static void restore() {
        Bounds.refusedBare("P54: no state was saved", "", STATE, "restore");
        Bounds.refusedBare("P54: no state was saved", "addPiece b, 9 * addCoal 1, undo, type coal 1", STATE, "restore");
        Bounds.refusedBare("P54: no state was saved", "addCoal 1, try restore", STATE, "restore");
        Bounds.holds("P54: afterwards no call can be undone", "9 * addCoal 1, save, 2 * addCoal 1, restore",
                "undo = " + NONE + ", coal = 29, addCoal 1 = 30, undo = 0, coal = 29, undo = " + NONE);
        Bounds.holds("P54: not even one before save", "addCoal 1, save, restore", "undo = " + NONE + ", coal = 21");
        Bounds.holds("P54: up to 8 calls afterwards", "3 * addCoal 1, save, restore, 9 * addCoal 1", "undo = 7,"
                + " coal = 31, 6 * undo = *, undo = 0, coal = 24, undo = " + NONE);
        Bounds.refused("P54: nothing to undo after restore", "3 * addCoal 1, save, addCoal 1, restore", STATE, "undo");
    }

    private static void savedStateStays() {
        Bounds.holds("P54: the state stays saved", "addCoal 1, save, addCoal 1", "restore = nothing, coal = 21,"
                + " addCoal 5 = 26, restore = nothing, coal = 21, restore = nothing, coal = 21");
        Bounds.holds("P54: changes after restore do not reach it", "addPiece b, save, restore, putIn 1, setBellows 5,"
                + " advance 5", "restore = nothing, pieceLine 1 = 1b:20/0/10, furnace = 20, time = 0");
        Bounds.holds("P54: undo does not reach it", "addCoal 1, addPiece w, save, undo, undo, setBellows 2",
                "coal = 20, pieceCount = 0, restore = nothing, coal = 21, pieceCount = 1, bellows = 0, kind 1 = w");
        String rich = Heat.fourPassed() + ", addPiece b, putIn 5, putIn 2, advance 2";
        List<String> due = Bounds.seen(() -> Script.forgeAfter(rich + ", save, restore"));
        String changed = rich + ", save, takeOut 2, assemble 1 2 3 4, advance 20, scrap 5, addCoal 7, setBellows 1,"
                + " 3 * addPiece n, addHammer 2, putIn 8, advance 9, restore";
        Check.same("P54: nothing is left of the changes", due, Bounds.seen(() -> Script.forgeAfter(changed)));
        Check.same("P54: the whole state is restored", Check.everything(Script.forgeAfter(rich)),
                Check.everything(Script.forgeAfter(changed)));
    }

    private static void queries() {
        String rich = Heat.fourPassed() + ", addHammer 3, addPiece b, putIn 5, putIn 2, setBellows 3,"
                + " advance 2" + OTHERS;
        List<String> before = Bounds.seen(() -> Script.forgeAfter(rich));
        String[] queries = {"time", "furnace", "bellows", "coal", "coalMinutes", "piecesInFurnace", "furnaceAfter 0",
            "furnaceAfter 200", "pieceCount", "exists 5", "exists 6", "pieceAt 4", "kind 5", "temperature 5",
            "stages 1", "hardness 1", "isInFurnace 5", "isQuenched 1", "hasPassed 1", "stroke 5 1",
            "minutesToCool 5 50", "minutesToCoolAlone 5 50", "pieceAtRank 4", "hammerCount", "weight 0", "wear 0",
            "heaviestHammer", "strokeTotal", "birdTotal", "burntTotal", "meanHardness", "passShare", "isConsistent",
            "errorPosition", "failedCommand", "outputAt 3"};
        for (String query : queries) {
            Check.same("a query changes nothing: " + query, before,
                    Bounds.seen(() -> Script.forgeAfter(rich + ", 2 * " + query)));
        }
        for (String writing : new String[] {"writePiece 5", "writePiece 2", "writeFurnace"}) {
            Check.same("writing changes the line only: " + writing, before,
                    Bounds.seen(() -> Script.forgeAfter(rich + ", " + writing + ", writeFurnace")));
        }
    }
}
