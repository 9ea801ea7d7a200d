import java.util.NoSuchElementException;

/** The boundary cases of the grammar and of promises 45 to 48. */
public final class ProgramBoundsTest {
    private static final Class<NoSuchElementException> MISSING = NoSuchElementException.class;
    private static final Class<IllegalStateException> STATE = IllegalStateException.class;
    private static final String ELEVEN = "in 01;out 1;in 1;out 1;in 1;out 1;in 1;out 1;in 1;out 1;in 1";
    private static final String TWELVE = "in 1;in 1;in 1;in 1;in 1;in 1;in 1;in 1;in 1;in 1;in 1;in 1";
    private static final String[] COMMANDS = {"coal 1", "bellows 1", "piece b", "tool 1", "in 1", "out 1", "hammer 1 1",
        "quench 1", "test 1", "bird 1 1 1 1", "scrap 1", "wait 1"};

    public static void main(String[] args) {
        append();
        anyCharacter();
        emptyText();
        wrongSignAtEachPlace();
        eachPrefix();
        afterLongerText();
        atTheEndOfTheBuffer();
        endsOfNumbers();
        neighbours();
        words();
        longTexts();
        refusedArguments();
        refusedPieces();
        refusedStrokes();
        refusedBirds();
        whichCommand();
        numbersAsWritten();
        grammarBeforeCommands();
        storedValues();
        Check.finish();
    }

    private static void append() {
        String full = "addPiece b, type " + ELEVEN;
        Bounds.refusedBare("P45: the buffer contains 60 characters", full, STATE, "append c", "append 0", "append 59");
        Bounds.refusedBare("P45: the buffer contains 60 characters", "type " + TWELVE + ";", STATE, "append c");
        Bounds.holds("P45: up to 60 characters", "type " + TWELVE, "append ; = 60, append x = IllegalStateException,"
                + " run = IllegalArgumentException, errorPosition = 60, append x = 1");
        Bounds.holds("P45: empty after a program", full, "run = 11, append x = 1, append x = 2");
        Bounds.holds("P45: empty after an error", "type x", "run = IllegalArgumentException, append x = 1");
        Bounds.holds("P45: empty after a failed command", "type wait 0", "run = UnsupportedOperationException,"
                + " append x = 1");
        Bounds.holds("P45: 60 characters again after a run", full + ", run, type " + TWELVE, "append ; = 60,"
                + " append ; = IllegalStateException");
    }

    private static void anyCharacter() {
        for (int character : new int[] {0, 10, 32, 127, 255, 256, 1000, 65535}) {
            Bounds.holds("P45: any character", "", "append " + character + " = 1, append " + character + " = 2");
            Bounds.holds("P46: a character that no command begins with", "", "append " + character + " = 1,"
                    + " run = IllegalArgumentException, errorPosition = 0");
        }
    }

    private static void emptyText() {
        wrong("", "", 0);
        wrong("addPiece b, putIn 1, setBellows 2", "", 0);
        Bounds.holds("P46: an empty text after a program", "type coal 1, run", "run = IllegalArgumentException,"
                + " errorPosition = 0, coal = 21");
    }

    /** The text is refused as no program at this position, and only the buffer and the position change. */
    private static void wrong(String script, String text, int position) {
        runRefused("P46: no program", script, text, "IllegalArgumentException", position, -1);
    }

    /** The text fails at this command, and only the buffer and the failed command change. */
    private static void fails(String script, String text, int command) {
        runRefused("P46: a command fails", script, text, "UnsupportedOperationException", -1, command);
    }

    private static void runRefused(String sentence, String script, String text, String due, int position, int command) {
        String what = sentence + ": <" + text + "> after <" + script + ">";
        for (String before : new String[] {script, Script.join(script, "type bellows 0;in 1x, try run",
                "type bellows 0;bellows 0;wait 0, try run, writeFurnace, save")}) {
            boolean stored = !before.equals(script);
            String typed = Script.join(before, text.isEmpty() ? "" : "type " + text);
            BirdForge forge = Script.forgeAfter(typed);
            Check.same(what, due, Check.outcome(forge::run));
            String earlier = stored ? "14" : "NoSuchElementException";
            Check.same(what + ": error position", position < 0 ? earlier : "" + position,
                    Check.outcome(forge::errorPosition));
            earlier = stored ? "2" : "NoSuchElementException";
            Check.same(what + ": failed command", command < 0 ? earlier : "" + command,
                    Check.outcome(forge::failedCommand));
            Check.same(what + ": the buffer is empty", 1, forge.append('c'));
            String others = ", type x, try run, type wait 0, try run";
            Check.same(what + " changes nothing else", Bounds.seen(() -> Script.forgeAfter(before + others)),
                    Bounds.seen(() -> Script.forgeAfter(typed + ", try run" + others)));
        }
    }

    private static void errorAt(String text, int position) {
        BirdForge forge = new BirdForge();
        Check.same("<" + text + ">", "IllegalArgumentException", Check.runOutcome(forge, text));
        Check.same("error position of <" + text + ">", position, forge.errorPosition());
    }

    private static void wrongSignAtEachPlace() {
        for (String command : COMMANDS) {
            for (int i = 0; i <= command.length(); i++) {
                errorAt(command.substring(0, i) + "!", i);
                errorAt(command.substring(0, i) + "!" + command.substring(i), i);
                errorAt("coal 1;" + command.substring(0, i) + "!", 7 + i);
            }
            wrong("addPiece b", command + "!", command.length());
        }
    }

    private static void eachPrefix() {
        for (String command : COMMANDS) {
            for (int i = 0; i < command.length(); i++) {
                errorAt(command.substring(0, i), i);
                errorAt("wait 60;" + command.substring(0, i), 8 + i);
            }
            errorAt(command + ";", command.length() + 1);
            wrong("", command + ";" + command + ";", 2 * command.length() + 2);
        }
    }

    /** What was typed before has no effect on a shorter text. */
    private static void afterLongerText() {
        for (String command : COMMANDS) {
            for (int i = 0; i < command.length(); i++) {
                BirdForge forge = new BirdForge();
                Check.runOutcome(forge, command + ";" + command);
                Check.same("<" + command.substring(0, i) + "> after a longer text", "IllegalArgumentException",
                        Check.runOutcome(forge, command.substring(0, i)));
                Check.same("its error position", i, forge.errorPosition());
            }
            BirdForge forge = new BirdForge();
            Check.runOutcome(forge, command + "1;x");
            String due = Script.outcome(Script.forgeAfter("type " + command), "run");
            Check.same("<" + command + "> after a longer text", due, Check.runOutcome(forge, command));
        }
        Bounds.holds("P46: a number of one digit after one of two", "type coal 15, run, type coal 1, run", "coal = 36");
    }

    /** A command that the 60th character cuts off, at each place. */
    private static void atTheEndOfTheBuffer() {
        for (String command : COMMANDS) {
            for (int i = 0; i < command.length(); i++) {
                String text = filled(60 - i) + command.substring(0, i);
                wrong("addPiece b, putIn 1", text, 60);
                errorAt(text.substring(0, 59) + "!", 59);
            }
            String whole = filled(60 - command.length()) + command;
            fails("addPiece b, putIn 1", whole, 0);
        }
    }

    /** Commands with their ";" that have just this length together. */
    private static String filled(int length) {
        int longer = length % 5;
        return "in 1;".repeat(length / 5 - longer) + "in 01;".repeat(longer);
    }

    private static void endsOfNumbers() {
        String[] numbers = {"coal 1", "in 1", "out 1", "hammer 1 1", "quench 1", "test 1", "bird 1 1 1 1", "scrap 1",
                "wait 1"};
        for (String command : numbers) {
            String first = command.substring(0, command.indexOf('1') + 1);
            String rest = command.substring(first.length());
            errorAt(first + "23" + rest, first.length() + 1);
            errorAt("coal 1;" + first + "00" + rest, first.length() + 8);
            errorAt(first.substring(0, first.length() - 1) + "-1" + rest, first.length() - 1);
            errorAt(first.substring(0, first.length() - 1) + " 1" + rest, first.length() - 1);
        }
        errorAt("bellows 11", 9);
        errorAt("tool 11", 6);
        errorAt("hammer 11 11", 11);
        errorAt("bird 1 123", 9);
        errorAt("bird 12 12 123", 13);
        errorAt("bird 12 12 12 123", 16);
        errorAt("bird 12 12 12 12 ", 16);
        errorAt("bird 1 1 1;", 10);
        errorAt("bird 1  1", 7);
        errorAt("hammer 1  1", 9);
        errorAt("hammer 11;", 9);
    }

    /** Signs that stand beside the allowed ones, or that share their lower eight bits. */
    private static void neighbours() {
        for (char sign : new char[] {'/', ':', (char) ('0' + 256), (char) ('9' + 256), '\u0660', '\uff11', 0}) {
            errorAt("coal " + sign, 5);
            errorAt("coal 1" + sign, 6);
            errorAt("coal 12" + sign, 7);
            errorAt("bellows " + sign, 8);
            errorAt("tool " + sign, 5);
            errorAt("hammer 1 " + sign, 9);
        }
        for (char sign : new char[] {'a', 'c', 'm', 'o', 'v', 'x', 'B', 'N', 'W', '1', ' ', (char) ('b' + 256)}) {
            errorAt("piece " + sign, 6);
        }
        for (char sign : new char[] {',', ' ', ':', '<', '\n', (char) (';' + 256)}) {
            errorAt("coal 11" + sign + "coal 1", 7);
            errorAt("piece b" + sign + "coal 1", 7);
            errorAt("bellows 1" + sign, 9);
        }
        for (char sign : new char[] {'\t', '\u00a0', '!', '\u001f', (char) (' ' + 256), '1'}) {
            errorAt("coal" + sign, 4);
            errorAt("bird 11" + sign + "1 1 1", 7);
        }
    }

    private static void words() {
        errorAt("be ", 2);
        errorAt("bi ", 2);
        errorAt("br", 1);
        errorAt("pi 1", 2);
        errorAt("te 1", 2);
        errorAt("to ", 2);
        errorAt("th", 1);
        errorAt("it", 1);
        errorAt("ha ", 2);
        errorAt("Wait 1", 0);
        errorAt("wAit 1", 1);
        errorAt("a", 0);
        errorAt("d", 0);
        errorAt("1", 0);
        errorAt("b", 1);
        errorAt("t", 1);
        errorAt("coal 1;b", 8);
        errorAt("coal 1;k", 7);
        errorAt("coal 1;;", 7);
        errorAt(";coal 1", 0);
        errorAt("coal 1 ;coal 1", 6);
    }

    private static void longTexts() {
        wrong("addPiece b", TWELVE + ";", 60);
        wrong("addPiece b", TWELVE + "x", 59);
        wrong("addPiece b", ELEVEN.substring(0, 59) + "x", 59);
        wrong("addPiece b", ELEVEN.substring(0, 59), 59);
        fails("addPiece b", TWELVE, 1);
        fails("4 * addPiece b", "in 1;in 2;in 3;out 1;in 1;out 1;in 1;out 1;in 1;out 1;in 9", 10);
        Bounds.holds("P46: a program of 60 characters", "addPiece b, type " + ELEVEN, "run = 11, isInFurnace 1 = true");
        Bounds.holds("P46: a program of one command", "type in 1, addPiece b", "run = 1, isInFurnace 1 = true");
    }

    private static void refusedArguments() {
        for (String command : new String[] {"coal 0", "coal 00", "coal 51", "coal 99", "bellows 6", "bellows 9",
                "tool 0", "wait 0", "wait 00", "wait 61", "wait 99"}) {
            fails("", command, 0);
            fails("addPiece w, putIn 1, setBellows 1", "coal 1;" + command + ";wait 1", 1);
        }
        fails("addCoal 30", "coal 50", 0);
        fails("addCoal 30", "coal 49;coal 1", 1);
        fails("8 * addPiece b", "piece b", 0);
        fails("7 * addPiece b", "piece w;piece n", 1);
        fails("4 * addHammer 1", "tool 9", 0);
        fails("3 * addHammer 1", "tool 1;tool 9", 1);
        runs("", "coal 1;coal 50", 2, "coal = 71");
        runs("", "coal 01", 1, "coal = 21");
        runs("addCoal 29", "coal 50", 1, "coal = 99");
        runs("", "bellows 5", 1, "bellows = 5");
        runs("setBellows 5", "bellows 0", 1, "bellows = 0");
        runs("", "wait 1;wait 60", 2, "time = 61");
        runs("", "tool 1;tool 9", 2, "weight 0 = 1, weight 1 = 9, hammerCount = 2");
        runs("7 * addPiece b", "piece n", 1, "pieceCount = 8, kind 8 = n");
    }

    private static void runs(String script, String text, int count, String after) {
        Bounds.holds("P46: the number of commands", Script.join(script, "type " + text), "run = " + count + ","
                + " " + after);
    }

    private static void refusedPieces() {
        for (String command : new String[] {"in", "out", "quench", "test", "scrap"}) {
            fails("", command + " 1", 0);
            fails("addPiece b, addPiece b, scrap 1", command + " 1", 0);
            fails("addPiece b, putIn 1", command + " 0", 0);
            fails("addPiece b", "wait 1;" + command + " 2;wait 1", 1);
            fails("addPiece b", "piece w;" + command + " 99", 1);
        }
        fails("addPiece b, putIn 1", "in 1", 0);
        fails("4 * addPiece b, putIn 1, putIn 2", "in 3;in 4", 1);
        fails("addPiece b", "out 1", 0);
        fails("addPiece b", "quench 1", 0);
        fails("addPiece b, putIn 1", "quench 1", 0);
        fails("addPiece b, " + Heat.to(699), "quench 1", 0);
        fails("addPiece b, " + Heat.to(700), "quench 1;quench 1", 1);
        fails("addPiece b", "test 1", 0);
        fails("addPiece b, " + Heat.QUENCHED, "test 1;test 1", 1);
        fails("addPiece b, " + Heat.QUENCHED, "in 1;test 1", 1);
        fails("addPiece b, " + Heat.QUENCHED + ", putIn 1, advance 1, takeOut 1", "test 1", 0);
        runs("addPiece b, " + Heat.to(700), "quench 1;test 1;scrap 1", 3, "pieceCount = 0, passShare = 0.0");
    }

    private static void refusedStrokes() {
        String hot = "addPiece b, addHammer 9, " + Heat.to(900);
        fails(hot, "hammer 2 0", 0);
        fails(hot, "hammer 0 0", 0);
        fails(hot, "hammer 1 1", 0);
        fails(hot, "hammer 1 9", 0);
        fails(hot, "hammer 1 0;hammer 1 0;hammer 1 0;hammer 1 0", 3);
        fails(hot, "in 1;hammer 1 0", 1);
        fails(hot, "hammer 1 0;quench 1;hammer 1 0", 2);
        fails(hot, "wait 10;hammer 1 0", 1);
        runs(hot, "hammer 01 0;hammer 1 0", 2, "stages 1 = 8, wear 0 = 2, strokeTotal = 2");
        runs("addPiece b, 4 * addHammer 9, " + Heat.to(900), "hammer 1 3", 1, "wear 3 = 1, wear 0 = 0");
    }

    private static void refusedBirds() {
        String passed = Heat.fourPassed();
        fails(passed, "bird 1 2 3 5", 0);
        fails(passed, "bird 5 2 3 4", 0);
        fails(passed, "bird 2 1 3 4", 0);
        fails(passed, "bird 1 2 3 3", 0);
        fails(passed, "in 4;bird 1 2 3 4", 1);
        fails(passed, "bird 1 2 3 4;bird 1 2 3 4", 1);
        fails(Heat.fourParts(3, true, false), "bird 1 2 3 4", 0);
        runs(passed, "bird 01 02 03 04;piece w", 2, "birdTotal = 1, pieceCount = 1, pieceAt 0 = 5");
        runs(passed, "bird 1 2 4 3", 1, "birdTotal = 1, pieceCount = 0");
    }

    private static void whichCommand() {
        fails("", "wait 0;coal 1;coal 1", 0);
        fails("", "coal 1;wait 0;coal 1", 1);
        fails("", "coal 1;coal 1;wait 0", 2);
        fails("", "coal 0;coal 0;wait 0", 0);
        fails("", "piece b;piece n;tool 9;coal 1;bellows 1;in 1;wait 9;out 2", 7);
    }

    private static void numbersAsWritten() {
        String ten = "6 * addPiece b, scrap 1, scrap 2, scrap 3, 5 * addPiece w";
        runs(ten, "in 10;in 4;in 09", 3, "isInFurnace 10 = true, isInFurnace 4 = true, isInFurnace 9 = true");
        runs(ten, "scrap 11", 1, "exists 11 = false, exists 10 = true, pieceCount = 7");
        fails(ten, "in 1", 0);
        fails(ten, "in 01", 0);
    }

    private static void grammarBeforeCommands() {
        wrong("", "wait 0;x", 7);
        wrong("", "coal 1;wait 0;coal", 18);
        wrong("8 * addPiece b", "piece b;in 1;piece a", 19);
    }

    private static void storedValues() {
        Bounds.refusedBare("P47: none was stored", "", MISSING, "errorPosition");
        Bounds.refusedBare("P48: none was stored", "", MISSING, "failedCommand");
        Bounds.refusedBare("P47: a failed command is no error position", "type wait 0, try run", MISSING,
                "errorPosition");
        Bounds.refusedBare("P48: an error position is no failed command", "type x, try run", MISSING, "failedCommand");
        Bounds.refusedBare("P47: a program stores none", "type wait 1, run", MISSING, "errorPosition", "failedCommand");
        String both = "type coal 1;x, try run, type coal 1;coal 0, try run";
        Bounds.holds("P47, P48: both", both, "errorPosition = 7, failedCommand = 1, errorPosition = 7");
        Bounds.holds("P47, P48: a program changes neither", both + ", type coal 1, run", "errorPosition = 7,"
                + " failedCommand = 1");
        Bounds.holds("P47: the last one, also when it is 0", both + ", try run", "errorPosition = 0,"
                + " failedCommand = 1");
        Bounds.holds("P48: the last one, also when it is 0", both + ", type wait 0, try run", "errorPosition = 7,"
                + " failedCommand = 0");
        Bounds.holds("P47, P48: nothing else changes them", both + ", addCoal 1, save, undo, restore, try addCoal 0,"
                + " try append c, writeFurnace", "errorPosition = 7, failedCommand = 1");
    }
}
