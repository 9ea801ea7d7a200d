import java.util.NoSuchElementException;

/** The boundary cases of promises 5, 7, 8, 10 to 13, 21 to 30 and 32 to 34. */
public final class PieceBoundsTest {
    private static final Class<NoSuchElementException> MISSING = NoSuchElementException.class;
    private static final Class<IndexOutOfBoundsException> INDEX = IndexOutOfBoundsException.class;
    private static final Class<IllegalArgumentException> ARGUMENT = IllegalArgumentException.class;
    private static final Class<IllegalStateException> STATE = IllegalStateException.class;
    private static final Class<UnsupportedOperationException> UNSUPPORTED = UnsupportedOperationException.class;
    private static final String LEAST = "-2147483648";
    private static final String MOST = "2147483647";
    private static final String EIGHT = "addPiece b, addPiece n, 6 * addPiece w";

    public static void main(String[] args) {
        addPiece();
        numbers();
        missingPieces();
        putIn();
        takeOut();
        quench();
        test();
        testMarks();
        assemble();
        scrap();
        positions();
        exists();
        cooling();
        firstTime();
        ranks();
        Check.finish();
    }

    private static void addPiece() {
        String sentence = "P5: the kind is 'b', 'n' or 'w'";
        Bounds.holds(sentence, "", "addPiece b = 1, kind 1 = b, addPiece n = 2, kind 2 = n, addPiece w = 3,"
                + " kind 3 = w");
        String[] wrong = {"addPiece a", "addPiece c", "addPiece m", "addPiece o", "addPiece v", "addPiece x",
            "addPiece B", "addPiece N", "addPiece W", "addPiece 0", "addPiece 354", "addPiece 366", "addPiece 375",
            "addPiece 65535"};
        Bounds.refused(sentence, "", ARGUMENT, wrong);
        Bounds.refused("P5: the kind is looked at before the number of pieces", EIGHT, ARGUMENT, wrong);
        Bounds.refused("P5: at most 8 pieces", EIGHT, STATE, "addPiece b", "addPiece n", "addPiece w");
        Bounds.holds("P5: 8 pieces", "7 * addPiece n", "pieceCount = 7, addPiece w = 8, pieceCount = 8");
        Bounds.holds("P4, P20, P32, P44: minutes with 8 pieces", EIGHT + ", putIn 8, setBellows 5", "advance 1 = 115,"
                + " temperature 8 = 43, temperature 7 = 20, minutesToCool 8 43 = 0, minutesToCool 7 20 = 0,"
                + " furnaceAfter 1 = 206, isConsistent = true, type wait 1 = 6, run = 1, temperature 8 = 83");
        Bounds.holds("P5: a place again", EIGHT + ", scrap 3", "addPiece n = 9, pieceCount = 8,"
                + " addPiece n = IllegalStateException");
        Bounds.holds("P5: four places again", Heat.fourPassed() + ", 4 * addPiece b, assemble 1 2 3 4",
                "4 * addPiece n = *, pieceCount = 8, pieceAt 7 = 12, addPiece n = IllegalStateException");
        Bounds.holds("P5: a new piece", "addPiece w", "temperature 1 = 20, stages 1 = 0, hardness 1 = 10,"
                + " isInFurnace 1 = false, isQuenched 1 = false, hasPassed 1 = false, pieceLine 1 = 1w:20/0/10");
        Bounds.holds("P5: a new piece in a place that was used", Heat.fourPassed() + ", putIn 4, advance 1, scrap 4",
                "addPiece b = 5, pieceLine 5 = 5b:20/0/10, hasPassed 5 = false");
    }

    private static void numbers() {
        String sentence = "numbers begin with 1 and are not used twice";
        Bounds.holds(sentence, "", "addPiece b = 1, addPiece b = 2, scrap 2 = 1, addPiece b = 3, scrap 1 = 1,"
                + " scrap 3 = 0, addPiece b = 4");
        Bounds.holds(sentence + ", also when a program fails", "type piece b;scrap 2, try run", "addPiece b = 1");
        Bounds.holds("undo concerns the whole state, so the number too", "addPiece b, addPiece b, undo",
                "addPiece w = 2, kind 2 = w");
        Bounds.holds("restore concerns the whole state, so the number too", "addPiece b, save, 2 * addPiece b,"
                + " restore", "addPiece w = 2, kind 2 = w");
        StringBuilder many = new StringBuilder("addPiece n");
        for (int number = 1; number < 250; number++) {
            many.append(", scrap ").append(number).append(", addPiece n");
        }
        Bounds.holds("a number of three digits", many.toString(), "exists 250 = true, exists 249 = false,"
                + " exists 251 = false, exists -6 = false, pieceAt 0 = 250, pieceLine 250 = 250n:20/0/10");
    }

    /** Every call that takes a piece, with numbers that no piece has; other conditions come later. */
    private static void missingPieces() {
        String two = "addPiece b, addPiece w, addPiece n, scrap 2, putIn 1, setBellows 3, advance 2";
        String used = Heat.fourPassed() + ", addPiece n, assemble 1 2 3 4";
        missing("", "0", "1", "-1", LEAST, MOST);
        missing(two, "0", "2", "4", "-1", "257", LEAST, MOST);
        missing(used, "1", "2", "3", "4", "6");
        missing(EIGHT + ", addHammer 9", "0", "9", "-8");
    }

    private static void missing(String script, String... numbers) {
        String[] calls = {"putIn #", "takeOut #", "hammer # 0", "hammer # 9", "quench #", "test #", "scrap #", "kind #",
            "temperature #", "stages #", "hardness #", "isInFurnace #", "isQuenched #", "hasPassed #", "stroke # 0",
            "stroke # -1", "minutesToCool # 20", "minutesToCool # 19", "minutesToCoolAlone # 20",
            "minutesToCoolAlone # 1201", "writePiece #", "assemble # # # #"};
        for (String number : numbers) {
            for (String call : calls) {
                Bounds.refused("there is no such piece", script, MISSING, call.replace("#", number));
            }
        }
    }

    private static void putIn() {
        String one = "2 * addPiece b, putIn 2";
        String full = "5 * addPiece b, putIn 2, putIn 5, putIn 3";
        Bounds.refused("P7: it is in the furnace", one, STATE, "putIn 2");
        Bounds.refused("P7: 3 pieces are in it", full, STATE, "putIn 1", "putIn 4");
        Bounds.refused("P7: both", full, STATE, "putIn 2", "putIn 5");
        Bounds.holds("P7: up to 3 pieces", "5 * addPiece b", "putIn 2 = 1, putIn 5 = 2, putIn 3 = 3,"
                + " isInFurnace 3 = true, isInFurnace 1 = false, isInFurnace 4 = false");
        Bounds.holds("P7: a place again after takeOut", full + ", takeOut 5", "putIn 1 = 3, isInFurnace 1 = true");
        Bounds.holds("P7: a place again after scrap", full + ", scrap 3", "putIn 1 = 3,"
                + " putIn 4 = IllegalStateException");
        Bounds.holds("P7: the same one again", one + ", takeOut 2", "putIn 2 = 1");
    }

    private static void takeOut() {
        Bounds.refused("P8: it is not in the furnace", "2 * addPiece b, putIn 2", STATE, "takeOut 1");
        Bounds.refused("P8: it is not in the furnace any more", "addPiece b, putIn 1, takeOut 1", STATE, "takeOut 1");
        Bounds.holds("P8: it lies on the bench", "2 * addPiece b, putIn 1, putIn 2, setBellows 5, advance 1",
                "takeOut 1 = 43, isInFurnace 1 = false, piecesInFurnace = 1, isInFurnace 2 = true, advance 1 = 206,"
                        + " temperature 1 = 41, temperature 2 = 83");
    }

    private static void quench() {
        String sentence = "P10: not with less than 700 degrees";
        Bounds.refused(sentence, "addPiece b", UNSUPPORTED, "quench 1");
        Bounds.refused(sentence, "addPiece b, " + Heat.to(699), UNSUPPORTED, "quench 1");
        Bounds.holds(sentence, "addPiece b, " + Heat.to(700), "temperature 1 = 700, quench 1 = 22, hardness 1 = 22,"
                + " temperature 1 = 20, isQuenched 1 = true, pieceLine 1 = 1b:20/0/22q");
        sentence = "P10: an eighth of what exceeds 600, rounded down";
        Bounds.holds(sentence, "addPiece b, " + Heat.to(703), "temperature 1 = 703, quench 1 = 22");
        Bounds.holds(sentence, "addPiece b, " + Heat.to(704), "temperature 1 = 704, quench 1 = 23");
        Bounds.holds(sentence, "addPiece b, " + Heat.to(1138), "temperature 1 = 1138, quench 1 = 77");
        Bounds.refused("P10: quenched, which is looked at before the temperature", "addPiece b, " + Heat.QUENCHED,
                STATE, "quench 1");
        Bounds.refused("P10: in the furnace, hot enough", "addPiece b, " + Heat.to(900) + ", putIn 1", STATE,
                "quench 1");
        Bounds.refused("P10: in the furnace, and cold", "addPiece b, putIn 1", STATE, "quench 1");
        Bounds.refused("P10: in the furnace, and quenched", "addPiece b, " + Heat.QUENCHED + ", putIn 1", STATE,
                "quench 1");
        hardest();
    }

    /** Ten strokes of two each, and then as hot as a piece can be. */
    private static void hardest() {
        String ten = "addPiece b, addHammer 1, " + Heat.to(1138) + ", advance 1, 10 * hammer 1 0";
        Bounds.holds("the highest hardness that can be reached", ten + ", addCoal 50, setBellows 5, putIn 1,"
                + " advance 10, addCoal 45, advance 9, takeOut 1", "stages 1 = 10, hardness 1 = 30,"
                + " temperature 1 = 1138, quench 1 = 97, hardness 1 = 97, meanHardness = 97.0");
    }

    private static void test() {
        String quenched = "addPiece b, " + Heat.QUENCHED;
        String at60 = quenched + ", putIn 1, advance 32, takeOut 1, advance 10";
        String at61 = quenched + ", advance 22, putIn 1, advance 1, takeOut 1, advance 1";
        Bounds.holds("P11: with 60 degrees", at60, "temperature 1 = 60, test 1 = false, pieceLine 1 = 1b:60/0/0q-");
        Bounds.refused("P11: not with more than 60 degrees", at61, UNSUPPORTED, "test 1");
        Bounds.holds("P11: with 61 degrees", at61, "temperature 1 = 61, test 1 = UnsupportedOperationException,"
                + " advance 1 = *, temperature 1 = 56, test 1 = false");
        Bounds.refused("P11: not quenched", "addPiece b", STATE, "test 1");
        Bounds.refused("P11: not quenched, and hot", "addPiece b, " + Heat.to(900), STATE, "test 1");
        Bounds.refused("P11: in the furnace", quenched + ", putIn 1", STATE, "test 1");
        Bounds.refused("P11: in the furnace, and hot", quenched + ", putIn 1, advance 1", STATE, "test 1");
        Bounds.refused("P11: failed", quenched + ", test 1", STATE, "test 1");
        Bounds.refused("P11: failed, and hot", quenched + ", test 1, putIn 1, advance 1, takeOut 1", STATE, "test 1");
        Bounds.refused("P11: passed", Heat.fourPassed(), STATE, "test 1", "test 4");
        Bounds.refused("P11: passed, and hot", Heat.fourPassed() + ", putIn 1, advance 1, takeOut 1", STATE, "test 1");
    }

    private static void testMarks() {
        String sentence = "it passes with 10 stages and a hardness from 40 to 70";
        String hammered = ", addHammer 9, 4 * hammer 1 0, quench 1";
        Bounds.holds(sentence, "addPiece b, " + Heat.to(768) + hammered, "stages 1 = 10, hardness 1 = 39,"
                + " test 1 = false, hasPassed 1 = false, passShare = 0.0");
        Bounds.holds(sentence, "addPiece b, " + Heat.to(776) + hammered, "stages 1 = 10, hardness 1 = 40,"
                + " test 1 = true, hasPassed 1 = true, passShare = 1.0");
        hammered = ", addHammer 9, 2 * hammer 1 0, quench 1";
        Bounds.holds(sentence, "addPiece b, " + Heat.to(1048) + hammered, "stages 1 = 10, hardness 1 = 70,"
                + " test 1 = true, hasPassed 1 = true");
        Bounds.holds(sentence, "addPiece b, " + Heat.to(1056) + hammered, "stages 1 = 10, hardness 1 = 71,"
                + " test 1 = false, hasPassed 1 = false");
        hammered = ", addHammer 9, addHammer 2, 2 * hammer 1 0, hammer 1 1";
        Bounds.holds(sentence, "addPiece b, " + Heat.to(900) + hammered + ", quench 1", "stages 1 = 9, hardness 1 = 53,"
                + " test 1 = false");
        Bounds.holds(sentence, "addPiece b, " + Heat.to(900) + hammered + ", hammer 1 1, quench 1", "stages 1 = 10,"
                + " hardness 1 = 55, test 1 = true");
    }

    private static void assemble() {
        String passed = Heat.fourPassed();
        Bounds.holds("P12: the four pieces are removed", passed + ", addPiece w", "assemble 1 2 3 4 = 1,"
                + " pieceCount = 1, pieceAt 0 = 5, exists 1 = false, exists 2 = false, exists 3 = false,"
                + " exists 4 = false, birdTotal = 1");
        Bounds.holds("P12: the wings in either order", passed, "assemble 1 2 4 3 = 1, pieceCount = 0");
        Bounds.refused("P12: a piece does not exist", passed, MISSING, "assemble 5 2 3 4", "assemble 1 5 3 4",
                "assemble 1 2 5 4", "assemble 1 2 3 5", "assemble 0 2 3 4", "assemble 1 2 3 -1");
        Bounds.refused("P12: that is looked at before the kinds", passed, MISSING, "assemble 2 1 3 5",
                "assemble 5 1 3 4", "assemble 1 2 9 9", "assemble 1 3 3 9");
        Bounds.refused("P12: not the required kind", passed + ", addPiece b", ARGUMENT, "assemble 2 2 3 4",
                "assemble 3 2 3 4", "assemble 1 1 3 4", "assemble 1 4 3 4", "assemble 1 2 1 4", "assemble 1 2 2 4",
                "assemble 1 2 3 1", "assemble 1 2 3 2", "assemble 1 2 3 5", "assemble 2 1 3 4");
        Bounds.refused("P12: both wings are the same piece", passed, ARGUMENT, "assemble 1 2 3 3", "assemble 1 2 4 4");
        Bounds.refused("P12: the kinds are looked at before the states", "addPiece b, addPiece n, 2 * addPiece w,"
                + " putIn 1, putIn 3", ARGUMENT, "assemble 2 1 3 4", "assemble 1 2 3 3", "assemble 1 2 4 4",
                "assemble 1 2 1 4");
        for (int odd = 1; odd <= 4; odd++) {
            Bounds.refused("P12: piece " + odd + " is in the furnace", passed + ", putIn " + odd, STATE,
                    "assemble 1 2 3 4", "assemble 1 2 4 3");
            Bounds.refused("P12: piece " + odd + " is untested", Heat.fourParts(odd, true, false), STATE,
                    "assemble 1 2 3 4", "assemble 1 2 4 3");
            Bounds.refused("P12: piece " + odd + " has failed", Heat.fourParts(odd, false, true), STATE,
                    "assemble 1 2 3 4", "assemble 1 2 4 3");
        }
        Bounds.refused("P12: nothing has passed", "addPiece b, addPiece n, 2 * addPiece w", STATE, "assemble 1 2 3 4");
    }

    private static void scrap() {
        Bounds.holds("P13: down to none", EIGHT, "scrap 8 = 7, scrap 1 = 6, scrap 4 = 5, pieceCount = 5, scrap 2 = 4,"
                + " scrap 3 = 3, scrap 5 = 2, scrap 6 = 1, scrap 7 = 0, pieceCount = 0,"
                + " scrap 7 = NoSuchElementException");
        Bounds.holds("P13: from the furnace too", "2 * addPiece b, putIn 1, putIn 2", "scrap 1 = 1,"
                + " piecesInFurnace = 1, exists 1 = false, isInFurnace 2 = true");
    }

    private static void positions() {
        for (String call : new String[] {"pieceAt ", "pieceAtRank "}) {
            Bounds.refused("P23, P34: no pieces", "", INDEX, call + "0", call + "-1", call + "1", call + LEAST,
                    call + MOST);
            Bounds.refused("P23, P34: three pieces", "4 * addPiece b, scrap 2", INDEX, call + "-1", call + "3",
                    call + "4",
                    call + LEAST, call + MOST);
            Bounds.refused("P23, P34: eight pieces", EIGHT, INDEX, call + "-1", call + "8");
            Bounds.holds("P23, P34: eight pieces", EIGHT, call + "0 = 1, " + call + "7 = 8");
        }
        Bounds.holds("P23: the order of the numbers", EIGHT + ", scrap 1, scrap 5, addPiece b", "pieceAt 0 = 2,"
                + " pieceAt 1 = 3, pieceAt 2 = 4, pieceAt 3 = 6, pieceAt 4 = 7, pieceAt 5 = 8, pieceAt 6 = 9,"
                + " pieceAt 7 = IndexOutOfBoundsException, pieceCount = 7");
        Bounds.holds("P23: after a scrap in the middle and an undo", EIGHT + ", scrap 4, undo", "pieceAt 2 = 3,"
                + " pieceAt 3 = 4, pieceAt 4 = 5");
        Bounds.holds("P21: 0 to 8", "", "pieceCount = 0, addPiece b = 1, pieceCount = 1, 7 * addPiece b = *,"
                + " pieceCount = 8, addPiece b = IllegalStateException, pieceCount = 8");
    }

    private static void exists() {
        Bounds.holds("P22: any number", "2 * addPiece n", "exists 0 = false, exists 1 = true, exists 2 = true,"
                + " exists 3 = false, exists -1 = false, exists " + LEAST + " = false, exists " + MOST + " = false");
        Bounds.holds("P22: not after it was removed", "2 * addPiece n, scrap 1", "exists 1 = false, exists 2 = true");
        Bounds.holds("P22: none", "addPiece n, scrap 1", "exists 0 = false, exists 1 = false, exists 2 = false");
    }

    private static void cooling() {
        for (String call : new String[] {"minutesToCool 1 ", "minutesToCoolAlone 1 "}) {
            String cold = "addPiece b";
            String at27 = "addPiece b, " + Heat.to(27);
            String at900 = "addPiece b, " + Heat.to(900);
            String sentence = "P32, P33: 20 to 1200 degrees";
            Bounds.refused(sentence, cold, ARGUMENT, call + "19", call + "1201", call + "-1", call + LEAST,
                    call + MOST);
            Bounds.refused(sentence + ", looked at before the 200 minutes", at27, ARGUMENT, call + "19", call + "1201");
            Bounds.holds(sentence, cold, call + "20 = 0, " + call + "1200 = 0");
            sentence = "P32, P33: 0 if it has at most this temperature now";
            Bounds.holds(sentence, at900, call + "900 = 0, " + call + "901 = 0, " + call + "1200 = 0");
            sentence = "P32, P33: after how many minutes";
            Bounds.holds(sentence, at900, call + "899 = 1, " + call + "790 = 1, " + call + "789 = 2, advance 1 = *, "
                    + "temperature 1 = 790, " + call + "790 = 0, " + call + "789 = 1");
            Bounds.holds(sentence, "addPiece b, " + Heat.to(28), call + "28 = 0, " + call + "27 = 1");
            sentence = "P32, P33: a higher temperature during the next 200 minutes";
            Bounds.holds(sentence, at27, call + "27 = 0");
            Bounds.refused(sentence, at27, STATE, call + "26", call + "20");
            Bounds.refused(sentence, at900, STATE, call + "26");
            Bounds.holds(sentence, at900 + ", putIn 1", call + "42 = *");
            Bounds.refused(sentence, at900 + ", putIn 1", STATE, call + "41");
        }
    }

    private static void firstTime() {
        for (String call : new String[] {"minutesToCool 1 ", "minutesToCoolAlone 1 "}) {
            String dip = "addPiece b, addCoal 50, addCoal 29, setBellows 5, putIn 1, advance 33, addCoal 50,"
                    + " setBellows 3";
            Bounds.holds("P32, P33: for the first time, though it gets hotter again", dip,
                    "temperature 1 = 669, " + call + "652 = 1, " + call + "647 = 2, advance 2 = *, temperature 1 = 647, advance 3 = *,"
                    + " temperature 1 = 669");
            cooled(call, dip, 646);
            cooled(call, "addPiece b, " + Heat.to(500) + ", putIn 1", 499);
            latest(call);
        }
    }

    /** The piece gets hotter first, and only much later as cold as this. */
    private static void cooled(String call, String script, int degrees) {
        BirdForge forge = Script.forgeAfter(script);
        int hottest = forge.temperature(1);
        int minutes = 0;
        while (forge.temperature(1) > degrees) {
            forge.advance(1);
            hottest = Math.max(hottest, forge.temperature(1));
            minutes++;
        }
        Check.yes("the piece got hotter than 600: " + hottest, hottest > 600);
        Check.yes("the piece took long: " + minutes, minutes > 10);
        Bounds.holds("P32, P33: colder only after it was hotter", script, call + degrees + " = " + minutes);
    }

    /** No state has a later one: of all of them, tried one by one, none has a new low after minute 172. */
    private static void latest(String call) {
        String script = "addPiece b, addCoal 50, addCoal 29, setBellows 2, putIn 1, advance 15, addCoal 30,"
                + " setBellows 1";
        Bounds.holds("P32, P33: the latest", script, call + "42 = 172");
        Bounds.refused("P32, P33: never", script, STATE, call + "41", call + "20");
        Bounds.holds("P32, P33: as the minutes tell", script + ", 2 * advance 60, advance 51", "temperature 1 = 43,"
                + " advance 1 = *, temperature 1 = 42, advance 28 = *, temperature 1 = 42");
    }

    private static void ranks() {
        String hard = "addPiece b, addPiece n, addPiece w, addHammer 1, addHammer 9, addCoal 50, addCoal 29,"
                + " setBellows 3, advance 15, putIn 1, putIn 2, putIn 3, advance 17, takeOut 1, takeOut 2, takeOut 3";
        Bounds.holds("P34: all equal, so by number", hard, "pieceAtRank 0 = 1, pieceAtRank 1 = 2, pieceAtRank 2 = 3");
        Bounds.holds("P34: by hardness before stages", hard + ", hammer 1 1, hammer 3 0, hammer 3 0", "stages 1 = 4,"
                + " stages 3 = 2, hardness 1 = 12, hardness 3 = 14, pieceAtRank 0 = 3, pieceAtRank 1 = 1,"
                + " pieceAtRank 2 = 2");
        Bounds.holds("P34: by stages before number", hard + ", hammer 1 0, hammer 2 1, hammer 3 1", "hardness 1 = 12,"
                + " hardness 2 = 12, pieceAtRank 0 = 2, pieceAtRank 1 = 3, pieceAtRank 2 = 1");
        Bounds.holds("P34: one piece", "3 * addPiece b, scrap 1, scrap 3", "pieceAtRank 0 = 2");
    }
}
