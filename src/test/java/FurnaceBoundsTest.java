/** The boundary cases of the furnace, of one minute, and of promises 1 to 4 and 14 to 20. */
public final class FurnaceBoundsTest {
    private static final Class<IllegalArgumentException> ARGUMENT = IllegalArgumentException.class;
    private static final Class<IllegalStateException> STATE = IllegalStateException.class;
    private static final Class<ArithmeticException> ARITHMETIC = ArithmeticException.class;
    private static final String LEAST = "-2147483648";
    private static final String MOST = "2147483647";

    public static void main(String[] args) {
        newForge();
        addCoal();
        setBellows();
        advance();
        coldestFurnace();
        hottestFurnace();
        for (int level = 1; level <= 5; level++) {
            coalForLevel(level);
        }
        pieceInFurnace();
        pieceOnBench();
        stepsInOrder();
        tempering();
        lowestHardness();
        softAgain();
        coalMinutes();
        piecesInFurnace();
        furnaceAfter();
        Check.finish();
    }

    private static void newForge() {
        Bounds.holds("P1: a cold forge at time 0", "", "time = 0, furnace = 20, bellows = 0, coal = 20,"
                + " piecesInFurnace = 0, furnaceAfter 0 = 20, furnaceAfter 200 = 20, strokeTotal = 0, birdTotal = 0,"
                + " burntTotal = 0, isConsistent = true");
        Bounds.holds("P1: without pieces", "", "pieceCount = 0, exists 0 = false, exists 1 = false");
        Bounds.holds("P1: without hammers", "", "hammerCount = 0");
        Bounds.refusedBare("P1: nothing at the first place", "", IndexOutOfBoundsException.class, "pieceAt 0",
                "pieceAtRank 0", "weight 0", "wear 0", "outputAt 0");
    }

    private static void addCoal() {
        String sentence = "P2: 1 to 50 units";
        Bounds.holds(sentence, "", "addCoal 1 = 21");
        Bounds.holds(sentence, "", "addCoal 50 = 70");
        Bounds.refused(sentence, "", ARGUMENT, "addCoal 0", "addCoal -1", "addCoal 51", "addCoal " + LEAST,
                "addCoal " + MOST);
        sentence = "P2: not more than 99 units";
        Bounds.holds(sentence, "addCoal 29", "coal = 49, addCoal 50 = 99, coal = 99");
        Bounds.refused(sentence, "addCoal 30", STATE, "addCoal 50");
        Bounds.holds(sentence, "addCoal 30", "addCoal 49 = 99");
        Bounds.holds(sentence, "addCoal 50, addCoal 28", "coal = 98, addCoal 1 = 99");
        Bounds.refused(sentence, "addCoal 50, addCoal 28", STATE, "addCoal 2", "addCoal 50");
        Bounds.refused(sentence, "addCoal 50, addCoal 29", STATE, "addCoal 1", "addCoal 50");
        Bounds.holds("P2: an empty store", "setBellows 5, advance 4", "coal = 0, addCoal 50 = 50");
        Bounds.holds("P2: place again when coal has burnt", "addCoal 50, addCoal 29, setBellows 1, advance 1",
                "coal = 98, addCoal 1 = 99, addCoal 1 = IllegalStateException");
        Bounds.refused("P2: the argument is looked at before the state", "addCoal 50, addCoal 29", ARGUMENT,
                "addCoal 0", "addCoal 51", "addCoal " + MOST);
    }

    private static void setBellows() {
        String sentence = "P3: the level is 0 to 5";
        Bounds.holds(sentence, "", "setBellows 0 = 0, setBellows 1 = 0, setBellows 5 = 1, bellows = 5,"
                + " setBellows 4 = 5, setBellows 0 = 4, bellows = 0");
        for (String script : new String[] {"", "setBellows 3, advance 2"}) {
            Bounds.refused(sentence, script, ARGUMENT, "setBellows -1", "setBellows 6", "setBellows 256",
                    "setBellows " + LEAST, "setBellows " + MOST);
        }
    }

    private static void advance() {
        String sentence = "P4: 1 to 60 minutes";
        Bounds.holds(sentence, "", "advance 1 = 20, time = 1, advance 60 = 20, time = 61");
        Bounds.holds(sentence, "setBellows 1", "advance 60 = 60, coal = 0, bellows = 0");
        for (String script : new String[] {"", "addPiece w, setBellows 3, putIn 1, advance 2"}) {
            Bounds.refused(sentence, script, ARGUMENT, "advance 0", "advance -1", "advance 61", "advance " + LEAST,
                    "advance " + MOST);
        }
        BirdForge one = Script.forgeAfter("addPiece w, putIn 1, setBellows 2, advance 30");
        BirdForge many = Script.forgeAfter("addPiece w, putIn 1, setBellows 2, 30 * advance 1");
        Check.same("P4: 30 minutes are 30 times one", Check.everything(many), Check.everything(one));
    }

    private static void coldestFurnace() {
        String sentence = "a twentieth of what exceeds 20, rounded down";
        Bounds.holds(sentence + ": 40 loses 1", "setBellows 1", "advance 1 = 39");
        Bounds.holds(sentence + ": 39 loses 0", "setBellows 1, advance 1, setBellows 0", "advance 1 = 39");
        Bounds.holds(sentence + ": 59 loses 1, 78 loses 2", "setBellows 1, advance 1",
                "advance 1 = 58, advance 1 = 76");
        Bounds.holds("the furnace is never colder than 20", "", "advance 60 = 20, furnace = 20");
        Bounds.holds("a hot furnace ends at 39", "setBellows 5, advance 60, advance 60", "furnace = 39");
    }

    private static void hottestFurnace() {
        String warm = "addCoal 50, addCoal 29, setBellows 4, advance 13, addCoal 50, advance 11";
        Bounds.holds("1102 + 80 is not yet 1200, 1124 + 80 is more", warm, "furnace = 1102, advance 1 = 1124,"
                + " furnaceAfter 1 = 1141, advance 1 = 1141, advance 1 = 1141, setBellows 5 = 4, advance 1 = 1141");
        String hot = "addCoal 50, addCoal 29, setBellows 5, advance 17";
        Bounds.holds("heating ends at 1200, of which 59 are lost", hot, "furnace = 1131, furnaceAfter 1 = 1141,"
                + " advance 1 = 1141, setBellows 0 = 5, advance 1 = 1085");
    }

    private static void coalForLevel(int level) {
        String sentence = "at least as many units as the level " + level;
        String enough = "setBellows 1, advance " + (20 - level) + ", setBellows " + level;
        int before = Script.forgeAfter(enough).furnace();
        Check.same(sentence + ": the coal", level, Script.forgeAfter(enough).coal());
        int heated = before + 20 * level;
        int due = heated - (heated - 20) / 20;
        Bounds.holds(sentence + ": just enough", enough, "furnaceAfter 1 = " + due + ", advance 1 = " + due
                + ", coal = 0, burntTotal = 20, bellows = " + level + ", coalMinutes = 0");
        int cooled = due - (due - 20) / 20;
        Bounds.holds(sentence + ": no coal", enough + ", advance 1", "advance 1 = " + cooled
                + ", coal = 0, burntTotal = 20, bellows = 0, coalMinutes = ArithmeticException");
        String lacking = "setBellows 1, advance " + (21 - level) + ", setBellows " + level;
        int warm = Script.forgeAfter(lacking).furnace();
        Bounds.holds(sentence + ": one unit too few", lacking, "advance 1 = " + (warm - (warm - 20) / 20)
                + ", coal = " + (level - 1) + ", bellows = 0, burntTotal = " + (21 - level));
        Bounds.holds(sentence + ": the level stays 0 when coal comes", lacking + ", advance 1, addCoal 50",
                "bellows = 0, advance 1 = *, burntTotal = " + (21 - level));
    }

    private static void pieceInFurnace() {
        String sentence = "a quarter of the difference, rounded down";
        String mild = "addPiece b, setBellows 1, advance 1, setBellows 0, putIn 1, advance 7";
        Bounds.holds(sentence + ": 4 degrees colder", mild, "furnace = 39, temperature 1 = 35, advance 1 = 39,"
                + " temperature 1 = 36");
        Bounds.holds(sentence + ": 3 degrees colder", mild + ", advance 1", "advance 60 = 39, temperature 1 = 36");
        String cooling = "addPiece b, putIn 1, setBellows 5, advance 60, advance 13";
        Bounds.holds(sentence + ": 4 degrees hotter", cooling, "furnace = 39, temperature 1 = 43, advance 1 = 39,"
                + " temperature 1 = 42");
        Bounds.holds(sentence + ": 3 degrees hotter", cooling + ", advance 1", "advance 60 = 39, temperature 1 = 42");
    }

    private static void pieceOnBench() {
        String sentence = "an eighth of what exceeds 20, rounded down";
        Bounds.holds(sentence + ": 28 loses 1", "addPiece b, " + Heat.to(28), "temperature 1 = 28, advance 1 = *,"
                + " temperature 1 = 27");
        Bounds.holds(sentence + ": 27 loses 0", "addPiece b, " + Heat.to(27), "temperature 1 = 27, advance 60 = *,"
                + " temperature 1 = 27");
        Bounds.holds(sentence + ": 20 loses 0", "addPiece b, setBellows 5, advance 4", "temperature 1 = 20");
    }

    private static void stepsInOrder() {
        Bounds.holds("heating comes before cooling, and cooling before the pieces", "addPiece b, putIn 1,"
                + " setBellows 5", "advance 1 = 115, temperature 1 = 43, time = 1");
        Bounds.holds("the hardness follows the temperature after the change", quenchedAnd("putIn 1, advance 26"),
                "temperature 1 = 209, hardness 1 = 1, advance 1 = *, temperature 1 = 200, hardness 1 = 0");
    }

    private static String quenchedAnd(String calls) {
        return "addPiece b, " + Heat.QUENCHED + ", " + calls;
    }

    private static void tempering() {
        tempered("putIn 1, advance 2, takeOut 1, advance 1", 224, 199, "20", "20");
        tempered("advance 13, putIn 1, advance 3", 176, 199, "22", "22");
        tempered("advance 5, putIn 1, advance 4, takeOut 1, advance 2", 225, 200, "17", "16");
        tempered("putIn 1, advance 26", 209, 200, "1", "0");
        tempered("addCoal 50, setBellows 1, putIn 1, advance 33, takeOut 1", 454, 400, "19", "18");
        tempered("advance 2, addCoal 50, setBellows 2, putIn 1, advance 3", 337, 400, "20", "19");
        tempered("advance 3, addCoal 50, setBellows 4, putIn 1, advance 4, takeOut 1", 455, 401, "20", "20");
        tempered("advance 7, addCoal 50, setBellows 1, putIn 1, advance 10", 396, 401, "14", "14");
        Bounds.holds("only a quenched piece is tempered", "addPiece b, " + Heat.to(500) + ", advance 2",
                "temperature 1 = 388, hardness 1 = 10, advance 1 = *, temperature 1 = 342, hardness 1 = 10");
    }

    private static void tempered(String calls, int before, int after, String hardness, String left) {
        Bounds.holds("tempered from 200 to 400, here at " + after, quenchedAnd(calls), "temperature 1 = " + before
                + ", hardness 1 = " + hardness + ", advance 1 = *, temperature 1 = " + after + ", hardness 1 = " + left
                + ", isQuenched 1 = true");
    }

    private static void lowestHardness() {
        Bounds.holds("the hardness does not decrease below 0", quenchedAnd("putIn 1, advance 24,"
                + " addCoal 50, setBellows 1, advance 1"), "hardness 1 = 2, advance 1 = *, hardness 1 = 1,"
                + " advance 1 = *, hardness 1 = 0, advance 1 = *, hardness 1 = 0, advance 10 = *, hardness 1 = 0,"
                + " temperature 1 = 285, isQuenched 1 = true");
    }

    private static void softAgain() {
        String at699 = "advance 16, addCoal 50, setBellows 5, putIn 1, advance 8";
        String at700 = "addCoal 50, setBellows 2, putIn 1, advance 18";
        String sentence = "at 700 a quenched piece becomes a new one but for its stages";
        for (String tested : new String[] {"", "test 1, "}) {
            String sign = tested.isEmpty() ? "" : "-";
            Bounds.holds(sentence + ", not at 699", quenchedAnd(tested + at699), "pieceLine 1 = 1b:635/0/20*q" + sign
                    + ", advance 1 = *, pieceLine 1 = 1b:699/0/20*q" + sign);
            Bounds.holds(sentence, quenchedAnd(tested + at700), "pieceLine 1 = 1b:695/0/20*q" + sign
                    + ", advance 1 = *, pieceLine 1 = 1b:700/0/10*, takeOut 1 = 700, quench 1 = 22, test 1 = false");
        }
        Bounds.holds(sentence + ", also when it has passed", "addPiece b, addHammer 9, " + Heat.to(900)
                + ", 3 * hammer 1 0, quench 1, test 1, putIn 1, addCoal 50, advance 4",
                "pieceLine 1 = 1b:674/10/52*q+, hasPassed 1 = true, advance 1 = *, pieceLine 1 = 1b:755/10/10*,"
                + " hasPassed 1 = false");
        Bounds.holds("a piece that is not quenched keeps its hardness", "addPiece b, addHammer 1, " + Heat.to(900)
                + ", hammer 1 0", "pieceLine 1 = 1b:900/1/12, advance 1 = *, pieceLine 1 = 1b:790/1/12");
    }

    private static void coalMinutes() {
        Bounds.refused("P18: not at level 0", "", ARITHMETIC, "coalMinutes");
        Bounds.refused("P18: not at level 0 again", "setBellows 3, setBellows 0", ARITHMETIC, "coalMinutes");
        Bounds.refused("P18: not when the coal has come to an end", "setBellows 3, advance 7", ARITHMETIC,
                "coalMinutes");
        String sentence = "P18: the coal divided by the level, rounded down";
        Bounds.holds(sentence, "setBellows 5, advance 3", "coal = 5, coalMinutes = 1, advance 1 = *,"
                + " coal = 0, coalMinutes = 0");
        Bounds.holds(sentence, "setBellows 1, advance 16, setBellows 5", "coal = 4, coalMinutes = 0");
        Bounds.holds(sentence, "setBellows 1, advance 11, setBellows 5", "coal = 9, coalMinutes = 1");
        Bounds.holds(sentence, "addCoal 50, addCoal 29, setBellows 1", "coalMinutes = 99, setBellows 2 = 1,"
                + " coalMinutes = 49, setBellows 5 = 2, coalMinutes = 19");
    }

    private static void piecesInFurnace() {
        Bounds.holds("P19: 0 to 3", "4 * addPiece n", "piecesInFurnace = 0, putIn 4 = 1, piecesInFurnace = 1,"
                + " putIn 1 = 2, piecesInFurnace = 2, putIn 3 = 3, piecesInFurnace = 3,"
                + " putIn 2 = IllegalStateException, piecesInFurnace = 3, scrap 1 = 3, piecesInFurnace = 2,"
                + " scrap 2 = 2, piecesInFurnace = 2, takeOut 4 = 20, piecesInFurnace = 1, takeOut 3 = 20,"
                + " piecesInFurnace = 0");
    }

    private static void furnaceAfter() {
        String burning = "setBellows 5, advance 2";
        for (String script : new String[] {"", "addPiece b, putIn 1, " + burning}) {
            Bounds.refused("P20: 0 to 200 minutes", script, ARGUMENT, "furnaceAfter -1", "furnaceAfter 201",
                    "furnaceAfter " + LEAST, "furnaceAfter " + MOST);
        }
        Bounds.holds("P20: now", burning, "furnaceAfter 0 = 206, furnace = 206");
        Bounds.holds("P20: as long as the coal lasts", burning, "furnaceAfter 2 = 374, furnaceAfter 3 = 357,"
                + " coal = 10, bellows = 5, time = 2, burntTotal = 10, advance 2 = 374, advance 1 = 357");
        String long200 = "addCoal 50, addCoal 29, setBellows 1, advance 10";
        BirdForge forge = Script.forgeAfter(long200 + ", 3 * advance 60, advance 20");
        Bounds.holds("P20: 200 minutes", long200, "furnaceAfter 200 = " + forge.furnace());
        for (int minutes = 1; minutes < 60; minutes++) {
            int due = Script.forgeAfter(long200 + ", advance 60, advance " + minutes).furnace();
            Bounds.holds("P20: each minute", long200, "furnaceAfter " + (60 + minutes) + " = " + due);
        }
    }
}
