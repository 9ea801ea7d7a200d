import java.util.NoSuchElementException;

/** The boundary cases of promises 6, 9, 31 and 35 to 38. */
public final class HammerBoundsTest {
    private static final Class<NoSuchElementException> MISSING = NoSuchElementException.class;
    private static final Class<IndexOutOfBoundsException> INDEX = IndexOutOfBoundsException.class;
    private static final Class<IllegalArgumentException> ARGUMENT = IllegalArgumentException.class;
    private static final Class<IllegalStateException> STATE = IllegalStateException.class;
    private static final Class<UnsupportedOperationException> UNSUPPORTED = UnsupportedOperationException.class;
    private static final String LEAST = "-2147483648";
    private static final String MOST = "2147483647";
    /** Pieces 1 to 3 with 900 degrees on the bench; hammer 0 weighs 1, hammer 1 weighs 9. */
    private static final String THREE = "addPiece b, addPiece n, addPiece w, addHammer 1, addHammer 9, addCoal 50,"
            + " addCoal 29, setBellows 3, advance 15, putIn 1, putIn 2, putIn 3, advance 17, takeOut 1, takeOut 2,"
            + " takeOut 3";
    private static final String WORN = THREE + ", 10 * hammer 1 0, 10 * hammer 2 0";

    public static void main(String[] args) {
        addHammer();
        noSuchHammer();
        temperatures();
        states();
        statesBeforeTemperatures();
        stages();
        wear();
        effects();
        strokeFormula();
        strokeThatIsNotAllowed();
        heaviest();
        Check.finish();
    }

    private static void addHammer() {
        String sentence = "P6: the weight is 1 to 9";
        Bounds.holds(sentence, "", "addHammer 1 = 0, weight 0 = 1, addHammer 9 = 1, weight 1 = 9, wear 0 = 0,"
                + " wear 1 = 0");
        String[] wrong = {"addHammer 0", "addHammer 10", "addHammer -1", "addHammer " + LEAST, "addHammer " + MOST};
        Bounds.refused(sentence, "", ARGUMENT, wrong);
        Bounds.refused("P6: the weight is looked at before the number of hammers", "4 * addHammer 5", ARGUMENT, wrong);
        Bounds.refused("P6: at most 4 hammers", "4 * addHammer 5", STATE, "addHammer 1", "addHammer 9");
        Bounds.holds("P6, P35: up to 4 hammers", "", "hammerCount = 0, addHammer 4 = 0, hammerCount = 1,"
                + " addHammer 3 = 1, hammerCount = 2, addHammer 2 = 2, hammerCount = 3, addHammer 1 = 3,"
                + " hammerCount = 4, addHammer 1 = IllegalStateException, hammerCount = 4, weight 3 = 1, weight 0 = 4");
    }

    private static void noSuchHammer() {
        noSuchHammer("addPiece b", 0);
        noSuchHammer("addPiece b, addHammer 9, " + Heat.to(900), 1);
        noSuchHammer("addPiece b, 4 * addHammer 9, " + Heat.to(900), 4);
        // The states and temperatures that forbid a stroke are looked at later.
        noSuchHammer("addPiece b, addHammer 9, addHammer 2, putIn 1", 2);
        noSuchHammer("addPiece b, addHammer 9, " + Heat.QUENCHED, 1);
        noSuchHammer("addPiece b, addHammer 9, " + Heat.to(900) + ", 3 * hammer 1 0", 1);
        noSuchHammer("addPiece b, addHammer 9, " + Heat.to(599), 1);
    }

    private static void noSuchHammer(String script, int count) {
        for (String call : new String[] {"hammer 1 ", "stroke 1 ", "weight ", "wear "}) {
            Bounds.refused("there is no such hammer", script, INDEX, call + count, call + "-1", call + (count + 1),
                    call + LEAST, call + MOST);
        }
    }

    private static void temperatures() {
        String sentence = "P9: a temperature from 600 to 1100";
        for (int degrees : new int[] {599, 1101, 1138, 28}) {
            Bounds.refused(sentence, "addPiece b, addHammer 9, " + Heat.to(degrees), UNSUPPORTED, "hammer 1 0");
        }
        Bounds.refused(sentence, "addPiece b, addHammer 9", UNSUPPORTED, "hammer 1 0");
        Bounds.holds(sentence, "addPiece b, addHammer 9, " + Heat.to(600), "temperature 1 = 600, hammer 1 0 = 1");
        Bounds.holds(sentence, "addPiece b, addHammer 9, " + Heat.to(1100), "temperature 1 = 1100, hammer 1 0 = 6");
    }

    private static void states() {
        String hot = "addPiece b, addHammer 1, addHammer 9, " + Heat.to(900);
        Bounds.refused("P9: in the furnace", hot + ", putIn 1", STATE, "hammer 1 0", "hammer 1 1");
        Bounds.refused("P9: 10 stages", hot + ", 3 * hammer 1 1", STATE, "hammer 1 0", "hammer 1 1");
        Bounds.refused("P9: the hammer is worn out", WORN, STATE, "hammer 3 0");
        Bounds.holds("P9: the other hammer is not", WORN, "hammer 3 1 = 4");
        String hotQuenched = "addPiece b, addHammer 9, " + Heat.QUENCHED + ", advance 4, addCoal 50, setBellows 2,"
                + " putIn 1, advance 26, takeOut 1";
        Bounds.holds("a quenched piece that is hot", hotQuenched, "isQuenched 1 = true, temperature 1 = 696");
        Bounds.refused("P9: quenched", hotQuenched, STATE, "hammer 1 0");
        Bounds.holds("P9: not quenched any more", "addPiece b, addHammer 9, " + Heat.QUENCHED + ", advance 4,"
                + " addCoal 50, setBellows 2, putIn 1, advance 27, takeOut 1", "temperature 1 = 701,"
                + " isQuenched 1 = false, hammer 1 0 = 2, hardness 1 = 12");
    }

    private static void statesBeforeTemperatures() {
        String sentence = "P9: the states are looked at before the temperature";
        Bounds.refused(sentence, "addPiece b, addHammer 9, putIn 1", STATE, "hammer 1 0");
        Bounds.refused(sentence, "addPiece b, addHammer 9, " + Heat.QUENCHED, STATE, "hammer 1 0");
        Bounds.refused(sentence, "addPiece b, addHammer 9, " + Heat.to(900) + ", 3 * hammer 1 0, advance 10", STATE,
                "hammer 1 0");
        Bounds.refused(sentence, WORN + ", advance 10", STATE, "hammer 3 0");
        Bounds.refused(sentence, WORN + ", advance 10, addPiece b", STATE, "hammer 4 0");
    }

    private static void stages() {
        Bounds.holds("the stages do not increase above 10", THREE, "2 * hammer 1 1 = *, stages 1 = 8, stroke 1 1 = 2,"
                + " hammer 1 1 = 10, stages 1 = 10, stroke 1 1 = 0, hammer 1 1 = IllegalStateException");
        Bounds.holds("9 stages are not yet 10", THREE, "9 * hammer 1 0 = *, stages 1 = 9, stroke 1 0 = 1,"
                + " stroke 1 1 = 1, hammer 1 1 = 10, stages 1 = 10");
        Bounds.holds("just 10", THREE, "2 * hammer 1 1 = *, hammer 1 0 = 9, hammer 1 0 = 10, hardness 1 = 18");
    }

    private static void wear() {
        String almost = THREE + ", 10 * hammer 1 0, 9 * hammer 2 0";
        Bounds.holds("a hammer with the wear 19 is not worn out, with 20 it is", almost, "wear 0 = 19,"
                + " strokeTotal = 19, hammer 2 0 = 10, wear 0 = 20, strokeTotal = 20,"
                + " hammer 3 0 = IllegalStateException, wear 0 = 20, strokeTotal = 20, wear 1 = 0, stages 3 = 0,"
                + " isConsistent = true");
    }

    private static void effects() {
        Bounds.holds("P9: a stroke", THREE, "hammer 2 1 = 4, hardness 2 = 12, temperature 2 = 900, wear 1 = 1,"
                + " wear 0 = 0, strokeTotal = 1, stages 1 = 0, stages 3 = 0, hardness 1 = 10, time = 32, weight 1 = 9,"
                + " hammer 3 0 = 1, wear 0 = 1, strokeTotal = 2");
    }

    private static void strokeFormula() {
        stroke(500, 9, 1);
        stroke(501, 9, 1);
        stroke(499, 9, 1);
        stroke(28, 9, 1);
        stroke(611, 9, 1);
        stroke(612, 9, 2);
        stroke(624, 8, 1);
        stroke(625, 8, 2);
        stroke(1000, 1, 1);
        stroke(1000, 2, 2);
        stroke(1000, 4, 3);
        stroke(1100, 9, 6);
        stroke(1138, 9, 6);
        stroke(1138, 1, 1);
        Bounds.holds("P31: 500 or less counts as 0", "addPiece b, addHammer 1, addHammer 9", "stroke 1 0 = 1,"
                + " stroke 1 1 = 1");
    }

    private static void stroke(int degrees, int weight, int due) {
        String script = "addPiece b, addHammer " + weight + ", " + Heat.to(degrees);
        Bounds.holds("P31: the quotient is rounded down", script, "temperature 1 = " + degrees + ", stroke 1 0 = " + due
                + ", stages 1 = 0, wear 0 = 0, strokeTotal = 0");
        if (degrees >= 600 && degrees <= 1100) {
            Bounds.holds("P9: the quotient is rounded down", script, "hammer 1 0 = " + due + ", stages 1 = " + due);
        }
    }

    private static void strokeThatIsNotAllowed() {
        Bounds.holds("P31: in the furnace", "addPiece b, addHammer 9, " + Heat.to(900) + ", putIn 1", "stroke 1 0 = 4");
        Bounds.holds("P31: quenched", "addPiece b, addHammer 9, " + Heat.QUENCHED, "stroke 1 0 = 1");
        Bounds.holds("P31: worn out", WORN, "stroke 3 0 = 1, stroke 3 1 = 4, stroke 1 0 = 0");
        Bounds.holds("P31: too hot", "addPiece b, addHammer 9, " + Heat.to(1138), "stroke 1 0 = 6");
        Bounds.holds("P31: too cold, 9 stages", THREE + ", 9 * hammer 1 0, advance 20", "stroke 1 1 = 1");
    }

    private static void heaviest() {
        Bounds.refused("P38: no hammers", "", MISSING, "heaviestHammer");
        Bounds.refused("P38: all are worn out", "addPiece b, addPiece n, addHammer 1, addCoal 50, addCoal 29,"
                + " setBellows 3, advance 15, putIn 1, putIn 2, advance 17, takeOut 1, takeOut 2, 10 * hammer 1 0,"
                + " 10 * hammer 2 0", MISSING, "heaviestHammer");
        Bounds.holds("P38: the heaviest one", "", "addHammer 1 = 0, heaviestHammer = 0, addHammer 9 = 1,"
                + " heaviestHammer = 1, addHammer 8 = 2, heaviestHammer = 1, addHammer 9 = 3, heaviestHammer = 1");
        Bounds.holds("P38: the heaviest one is the last", "addHammer 1, addHammer 2, addHammer 3, addHammer 4",
                "heaviestHammer = 3");
        Bounds.holds("P38: the least wear", THREE + ", addHammer 9, addHammer 9, hammer 1 1, hammer 2 2",
                "heaviestHammer = 3, hammer 3 3 = 4, heaviestHammer = 1, hammer 3 1 = 8, heaviestHammer = 2");
        Bounds.holds("P38: weight comes before wear", THREE + ", hammer 1 1", "heaviestHammer = 1");
        // With 900 degrees a hammer of the weight 2 makes one stage a stroke, as one of the weight 1 does.
        String heavier = THREE.replace("addHammer 1, addHammer 9", "addHammer 2, addHammer 1");
        Bounds.holds("P38: the heavier one until it is worn out", heavier + ", 10 * hammer 1 0, 9 * hammer 2 0",
                "wear 0 = 19, heaviestHammer = 0, hammer 2 0 = 10, wear 0 = 20, heaviestHammer = 1");
    }
}
