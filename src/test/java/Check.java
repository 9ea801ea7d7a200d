import java.util.Objects;

/** What every test uses: comparisons that print what is wrong, and forges in states that take long to reach. */
final class Check {
    interface Call {
        Object answer();
    }

    interface Action {
        void act();
    }

    private static int wrong = 0;

    private Check() {
    }

    static void same(String what, Object due, Object got) {
        if (!Objects.equals(due, got)) {
            wrong++;
            System.out.println(what + ": due is " + due + ", got " + got);
        }
    }

    static void yes(String what, boolean got) {
        same(what, true, got);
    }

    static void refused(String what, Class<? extends RuntimeException> due, Call call) {
        same(what, due.getSimpleName(), outcome(call));
    }

    static void refusedAct(String what, Class<? extends RuntimeException> due, Action action) {
        refused(what, due, () -> {
            action.act();
            return "nothing";
        });
    }

    /** The answer as text, or the plain name of the exception's class; the machine's own exceptions are told apart. */
    static String outcome(Call call) {
        try {
            return String.valueOf(call.answer());
        } catch (RuntimeException thrown) {
            boolean byDivision = String.valueOf(thrown.getMessage()).contains("by zero");
            return (byDivision ? "machine's " : "") + thrown.getClass().getSimpleName();
        }
    }

    static void finish() {
        if (wrong > 0) {
            System.out.println(wrong + " wrong");
            System.exit(1);
        }
    }

    static void type(BirdForge forge, String text) {
        for (char character : text.toCharArray()) {
            forge.append(character);
        }
    }

    static String runOutcome(BirdForge forge, String text) {
        type(forge, text);
        return outcome(forge::run);
    }

    static String line(BirdForge forge, int length) {
        StringBuilder text = new StringBuilder();
        for (int i = 0; i < length; i++) {
            text.append(forge.outputAt(i));
        }
        return text.toString();
    }

    static String pieceLine(BirdForge forge, int piece) {
        return line(forge, forge.writePiece(piece));
    }

    static String furnaceLine(BirdForge forge) {
        return line(forge, forge.writeFurnace());
    }

    /** Everything that the queries answer, so that two states can be compared. */
    static String everything(BirdForge forge) {
        StringBuilder text = new StringBuilder();
        text.append(forge.time()).append(' ').append(forge.furnace()).append(' ').append(forge.bellows());
        text.append(' ').append(forge.coal()).append(' ').append(forge.piecesInFurnace());
        for (int i = 0; i < forge.pieceCount(); i++) {
            int piece = forge.pieceAt(i);
            text.append(" |").append(piece).append(forge.kind(piece)).append(forge.temperature(piece));
            text.append('/').append(forge.stages(piece)).append('/').append(forge.hardness(piece));
            text.append(forge.isInFurnace(piece)).append(forge.isQuenched(piece)).append(forge.hasPassed(piece));
        }
        for (int i = 0; i < forge.hammerCount(); i++) {
            text.append(" !").append(forge.weight(i)).append('/').append(forge.wear(i));
        }
        text.append(' ').append(forge.strokeTotal()).append(' ').append(forge.birdTotal());
        text.append(' ').append(forge.burntTotal()).append(' ').append(outcome(forge::passShare));
        return text.toString();
    }

    /** Lets a minute pass with the bellows at work, with as much coal as that takes. */
    static void blow(BirdForge forge, int level) {
        if (forge.coal() <= 49) {
            forge.addCoal(50);
        }
        forge.setBellows(level);
        forge.advance(1);
    }

    /** A forge with the pieces' kinds and piece 1 on the bench with just this temperature. */
    static BirdForge withPieceAt(int degrees, String kinds) {
        for (int level = 5; level >= 3; level--) {
            for (int preheating = 0; preheating < 60; preheating++) {
                BirdForge forge = new BirdForge();
                for (char kind : kinds.toCharArray()) {
                    forge.addPiece(kind);
                }
                for (int minute = 0; minute < preheating; minute++) {
                    blow(forge, level);
                }
                forge.putIn(1);
                if (heatsTo(forge, degrees, level)) {
                    return forge;
                }
            }
        }
        throw new AssertionError("no run found to " + degrees);
    }

    private static boolean heatsTo(BirdForge forge, int degrees, int level) {
        for (int minute = 0; minute < 40; minute++) {
            if (coolsTo(forge, 1, degrees)) {
                return true;
            }
            blow(forge, level);
        }
        return false;
    }

    /** Waits with the bellows at rest until the furnace is no hotter than this. */
    static void coolFurnace(BirdForge forge, int degrees) {
        forge.setBellows(0);
        while (forge.furnace() > degrees) {
            forge.advance(1);
        }
    }

    /** Tries to bring a piece from the furnace to the bench with just this temperature. */
    static boolean coolsTo(BirdForge forge, int piece, int degrees) {
        forge.save();
        forge.takeOut(piece);
        for (int minute = 0; minute < 40; minute++) {
            if (forge.temperature(piece) == degrees) {
                return true;
            }
            forge.advance(1);
        }
        forge.restore();
        return false;
    }

    /** Brings all given pieces from the cold to ten stages, quenches and tests them; hammer 0 weighs 9. */
    static void make(BirdForge forge, int... pieces) {
        for (int piece : pieces) {
            forge.putIn(piece);
            while (forge.temperature(piece) < 880) {
                blow(forge, 5);
            }
            forge.takeOut(piece);
            while (forge.stages(piece) < 10) {
                forge.hammer(piece, 0);
            }
            forge.quench(piece);
            forge.test(piece);
        }
    }
}
