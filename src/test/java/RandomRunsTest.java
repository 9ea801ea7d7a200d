import java.util.Random;

/** Long runs of calls, many of them useful and some of them wrong, compared with the model after every call. */
public final class RandomRunsTest {
    private static final int RUNS = 250;
    private static final int CALLS = 500;

    private final Random random;
    private final BirdForge forge = new BirdForge();
    private final Model model = new Model();
    private final int run;
    private int calls = 0;
    private boolean wrong = false;

    private RandomRunsTest(int run) {
        this.run = run;
        this.random = new Random(run);
    }

    public static void main(String[] args) {
        int birds = 0;
        for (int run = 0; run < RUNS; run++) {
            RandomRunsTest test = new RandomRunsTest(run);
            test.play();
            birds += test.forge.birdTotal();
        }
        Check.yes("the runs made birds: " + birds, birds > 20);
        Check.finish();
    }

    private void play() {
        for (int i = random.nextInt(4); i > 0; i--) {
            compare("addHammer", 1 + random.nextInt(9));
        }
        while (calls < CALLS && !wrong) {
            int what = random.nextInt(100);
            if (what < 3) {
                makeBird();
            } else if (what < 12) {
                makePiece();
            } else if (what < 20) {
                program();
            } else if (what < 26) {
                assemble();
            } else if (what < 34) {
                undoOrSave();
            } else if (what < 65) {
                change();
            } else {
                query();
            }
            if (calls % 50 == 0) {
                everything();
            }
        }
        everything();
    }

    private void compare(String name, int... a) {
        if (calls >= 512 || wrong) {
            return;
        }
        calls++;
        String due = Check.outcome(() -> model.call(name, a));
        String got = Check.outcome(() -> Calls.call(forge, name, a));
        wrong = !due.equals(got);
        Check.same("run " + run + ", call " + calls + ": " + name + java.util.Arrays.toString(a), due, got);
    }

    private int piece() {
        int count = forge.pieceCount();
        if (count == 0 || random.nextInt(12) == 0) {
            return random.nextInt(14) - 2;
        }
        return forge.pieceAt(random.nextInt(count));
    }

    private int hammer() {
        return random.nextInt(10) == 0 ? random.nextInt(7) - 1 : random.nextInt(Math.max(1, forge.hammerCount()));
    }

    private void makePiece() {
        int piece = piece();
        compare("addCoal", 1 + random.nextInt(50));
        compare("setBellows", 5);
        compare("putIn", piece);
        compare("advance", 1 + random.nextInt(15));
        compare("takeOut", piece);
        for (int i = random.nextInt(6); i > 0; i--) {
            compare("hammer", piece, hammer());
        }
        compare("quench", piece);
        if (random.nextBoolean()) {
            compare("test", piece);
        }
    }

    /** Works on purpose towards four passed pieces, with whatever hammers there are. */
    private void makeBird() {
        compare("addHammer", 9);
        for (char kind : "bnww".toCharArray()) {
            compare("addPiece", kind);
            int piece = forge.pieceCount() == 0 ? 1 : forge.pieceAt(forge.pieceCount() - 1);
            compare("putIn", piece);
            for (int i = 0; i < 25 && forge.exists(piece) && forge.temperature(piece) < 780; i++) {
                compare("addCoal", 40);
                compare("setBellows", 5);
                compare("advance", 2);
            }
            compare("takeOut", piece);
            for (int i = 0; i < 10 && forge.exists(piece) && forge.stages(piece) < 10; i++) {
                compare("hammer", piece, Math.max(0, heaviest()));
            }
            compare("quench", piece);
            compare("test", piece);
        }
        assemble();
    }

    private int heaviest() {
        compare("heaviestHammer");
        int best = -1;
        for (int i = 0; i < forge.hammerCount(); i++) {
            if (forge.wear(i) < 20 && (best < 0 || forge.weight(i) > forge.weight(best))) {
                best = i;
            }
        }
        return best;
    }

    private void assemble() {
        int[] four = {piece(), piece(), piece(), piece()};
        if (random.nextInt(4) > 0) {
            fit(four);
        }
        compare("assemble", four);
    }

    private void fit(int[] four) {
        int wings = 2;
        for (int i = 0; i < forge.pieceCount(); i++) {
            int piece = forge.pieceAt(i);
            if (!forge.hasPassed(piece) || forge.isInFurnace(piece)) {
                continue;
            }
            if (forge.kind(piece) == 'b') {
                four[0] = piece;
            } else if (forge.kind(piece) == 'n') {
                four[1] = piece;
            } else if (wings < 4) {
                four[wings] = piece;
                wings++;
            }
        }
    }

    private void undoOrSave() {
        int what = random.nextInt(10);
        if (what < 6) {
            for (int i = random.nextInt(4); i >= 0; i--) {
                compare("undo");
            }
        } else {
            compare(what < 8 ? "save" : random.nextInt(3) == 0 ? "restore" : "undo");
        }
    }

    private void change() {
        switch (random.nextInt(12)) {
            case 0 -> compare("addCoal", random.nextInt(54) - 1);
            case 1 -> compare("setBellows", random.nextInt(8) - 1);
            case 2 -> compare("advance", random.nextInt(10) == 0 ? random.nextInt(64) : 1 + random.nextInt(6));
            case 3, 4 -> compare("addPiece", "bnww".charAt(random.nextInt(4)));
            case 5 -> compare("addHammer", random.nextInt(11));
            case 6 -> compare("putIn", piece());
            case 7 -> compare("takeOut", piece());
            case 8 -> compare("hammer", piece(), hammer());
            case 9 -> compare("quench", piece());
            case 10 -> compare("test", piece());
            default -> compare(random.nextInt(4) == 0 ? "scrap" : "takeOut", piece());
        }
    }

    private void query() {
        switch (random.nextInt(14)) {
            case 0 -> compare("furnaceAfter", random.nextInt(204) - 1);
            case 1 -> compare("minutesToCool", piece(), random.nextInt(1190) + 15);
            case 2 -> compare("minutesToCoolAlone", piece(), random.nextInt(1190) + 15);
            case 3 -> compare("stroke", piece(), hammer());
            case 4 -> compare("pieceAt", random.nextInt(10) - 1);
            case 5 -> compare("pieceAtRank", random.nextInt(10) - 1);
            case 6 -> compare("writePiece", piece());
            case 7 -> compare("writeFurnace");
            case 8 -> compare("outputAt", random.nextInt(16) - 1);
            case 9 -> compare("minutesToCool", piece(), random.nextInt(60) + 15);
            case 10 -> compare("isConsistent");
            case 11 -> compare("heaviestHammer");
            case 12 -> compare("coalMinutes");
            default -> compare("exists", piece());
        }
    }

    private void program() {
        StringBuilder text = new StringBuilder(command());
        while (random.nextInt(3) > 0) {
            text.append(';').append(command());
        }
        if (random.nextInt(4) == 0) {
            text.setCharAt(random.nextInt(text.length()), "bcehinost 019;".charAt(random.nextInt(14)));
        }
        if (random.nextInt(5) == 0) {
            text.setLength(random.nextInt(text.length() + 1));
        }
        // Typing takes many calls of the 512, so long programs are cut.
        for (int i = 0; i < text.length() && i < 64; i++) {
            compare("append", text.charAt(i));
        }
        compare("run");
        compare("errorPosition");
        compare("failedCommand");
    }

    private String command() {
        int piece = Math.abs(piece()) % 100;
        String number = (random.nextInt(5) == 0 && piece < 10 ? "0" : "") + piece;
        return switch (random.nextInt(14)) {
            case 0 -> "coal " + random.nextInt(52);
            case 1 -> "bellows " + random.nextInt(7);
            case 2 -> "piece " + "bnw".charAt(random.nextInt(3));
            case 3 -> "tool " + random.nextInt(10);
            case 4 -> "in " + number;
            case 5 -> "out " + number;
            case 6 -> "hammer " + number + " " + Math.abs(hammer());
            case 7 -> "quench " + number;
            case 8 -> "test " + number;
            case 9 -> "bird 1 2 3 " + number;
            case 10 -> "scrap " + number;
            default -> "wait " + random.nextInt(62);
        };
    }

    /** Every query; these calls are not counted, for they stand for the comparing only. */
    private void everything() {
        int counted = calls;
        String[] plain = {"time", "furnace", "bellows", "coal", "coalMinutes", "piecesInFurnace", "pieceCount",
            "hammerCount", "heaviestHammer", "strokeTotal", "birdTotal", "burntTotal", "meanHardness", "passShare",
            "isConsistent"};
        for (String name : plain) {
            quiet(name);
        }
        String[] ofPiece = {"exists", "kind", "temperature", "stages", "hardness", "isInFurnace", "isQuenched",
            "hasPassed", "pieceAt", "pieceAtRank", "weight", "wear", "outputAt"};
        for (int number = -1; number < 14; number++) {
            for (String name : ofPiece) {
                quiet(name, number);
            }
            quiet("minutesToCool", number, 100);
            quiet("minutesToCoolAlone", number, 20);
            quiet("stroke", number, 0);
        }
        calls = counted;
    }

    private void quiet(String name, int... a) {
        calls = 0;
        compare(name, a);
    }
}
