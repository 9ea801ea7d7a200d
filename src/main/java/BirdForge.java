import java.util.NoSuchElementException;

/**
 * A model of a forge that makes iron birds: pieces are heated in a furnace, hammered in stages,
 * quenched, tempered and tested, hammers wear, and birds are put together from tested pieces.
 */
public final class BirdForge {
    private static final int COLD = 20;
    private static final int HOTTEST = 1200;
    private static final int MAX_LEVEL = 5;
    private static final int FIRST_COAL = 20;
    private static final int MAX_COAL = 99;
    private static final int MAX_ADDED_COAL = 50;
    private static final int MAX_ADVANCE = 60;
    private static final int MAX_FORECAST = 200;

    private static final int MAX_PIECES = 8;
    private static final int MAX_IN_FURNACE = 3;
    private static final int MAX_STAGES = 10;
    private static final int FIRST_HARDNESS = 10;
    private static final int MAX_HARDNESS = 99;
    private static final char BODY = 'b';
    private static final char NECK = 'n';
    private static final char WING = 'w';

    private static final int MAX_HAMMERS = 4;
    private static final int MAX_WEIGHT = 9;
    private static final int MAX_WEAR = 20;

    private static final int UNDO_DEPTH = 8;
    // One slot more than can be undone: a call that fails must not cost the oldest one.
    private static final int UNDO_SLOTS = 9;

    private static final int MAX_TEXT = 60;
    // The shortest command has 4 characters, and all but the last one are followed by a ";".
    private static final int MAX_COMMANDS = 12;
    private static final int MAX_ARGUMENTS = 4;

    private static final int NONE = -1;

    // Every change answers 0 or more, so a refusal can be told by a negative number:
    // run has to see refusals without any exception being thrown.
    private static final int NO_PIECE = -1;
    private static final int NO_HAMMER = -2;
    private static final int BAD_ARGUMENT = -3;
    private static final int BAD_STATE = -4;
    private static final int BAD_TEMPERATURE = -5;

    private static final Command[] COMMANDS = Command.values();

    private final Forge forge = new Forge();
    private final Forge saved = new Forge();
    private final Forge trial = new Forge();
    private final History history = new History();
    private final Forecast forecast = new Forecast();
    private final Program program = new Program();
    private final StringBuilder line = new StringBuilder();
    private boolean hasSaved = false;
    private int lastErrorPosition = NONE;
    private int lastFailedCommand = NONE;

    public BirdForge() {
    }

    // ---- furnace

    public int addCoal(int units) throws IllegalArgumentException, IllegalStateException {
        history.prepare(forge);
        return settle(forge.storeCoal(units));
    }

    public int setBellows(int level) throws IllegalArgumentException {
        history.prepare(forge);
        return settle(forge.changeLevel(level));
    }

    public int advance(int minutes) throws IllegalArgumentException {
        history.prepare(forge);
        return settle(forge.passMinutes(minutes));
    }

    // ---- pieces and hammers

    public int addPiece(char kind) throws IllegalArgumentException, IllegalStateException {
        history.prepare(forge);
        return settle(forge.newPiece(kind));
    }

    public int addHammer(int weight) throws IllegalArgumentException, IllegalStateException {
        history.prepare(forge);
        return settle(forge.newHammer(weight));
    }

    public int putIn(int piece) throws NoSuchElementException, IllegalStateException {
        history.prepare(forge);
        return settle(forge.intoFurnace(piece));
    }

    public int takeOut(int piece) throws NoSuchElementException, IllegalStateException {
        history.prepare(forge);
        return settle(forge.ontoBench(piece));
    }

    public int hammer(int piece, int hammer) throws NoSuchElementException, IndexOutOfBoundsException,
            IllegalStateException, UnsupportedOperationException {
        history.prepare(forge);
        return settle(forge.strike(piece, hammer));
    }

    public int quench(int piece) throws NoSuchElementException, IllegalStateException,
            UnsupportedOperationException {
        history.prepare(forge);
        return settle(forge.chill(piece));
    }

    public boolean test(int piece) throws NoSuchElementException, IllegalStateException,
            UnsupportedOperationException {
        history.prepare(forge);
        return settle(forge.examine(piece)) == 1;
    }

    public int assemble(int body, int neck, int wing, int otherWing) throws NoSuchElementException,
            IllegalArgumentException, IllegalStateException {
        history.prepare(forge);
        return settle(forge.join(body, neck, wing, otherWing));
    }

    public int scrap(int piece) throws NoSuchElementException {
        history.prepare(forge);
        return settle(forge.throwAway(piece));
    }

    private int settle(int answer) {
        switch (answer) {
            case NO_PIECE:
                throw new NoSuchElementException("there is no such piece");
            case NO_HAMMER:
                throw new IndexOutOfBoundsException("there is no such hammer");
            case BAD_ARGUMENT:
                throw new IllegalArgumentException("an argument is not allowed");
            case BAD_STATE:
                throw new IllegalStateException("the forge, piece or hammer is not in a state for this");
            case BAD_TEMPERATURE:
                throw new UnsupportedOperationException("the piece has no temperature for this");
            default:
                history.commit();
                return answer;
        }
    }

    // ---- queries about the furnace

    public int time() {
        return forge.time;
    }

    public int furnace() {
        return forge.furnace.temperature;
    }

    public int bellows() {
        return forge.furnace.level;
    }

    public int coal() {
        return forge.furnace.coal;
    }

    public int coalMinutes() throws ArithmeticException {
        int level = forge.furnace.level;
        if (level == 0) {
            throw new ArithmeticException("the bellows level is 0");
        }
        return forge.furnace.coal / level;
    }

    public int piecesInFurnace() {
        return forge.countInFurnace();
    }

    public int furnaceAfter(int minutes) throws IllegalArgumentException {
        if (minutes < 0 || minutes > MAX_FORECAST) {
            throw new IllegalArgumentException("the number of minutes is out of range");
        }
        return forecast.furnaceIn(forge, minutes);
    }

    // ---- queries about pieces

    public int pieceCount() {
        return forge.pieceCount;
    }

    public boolean exists(int piece) {
        return forge.find(piece) != null;
    }

    public int pieceAt(int position) throws IndexOutOfBoundsException {
        Piece found = forge.pieceIn(position);
        if (found == null) {
            throw new IndexOutOfBoundsException("there is no such position");
        }
        return found.number;
    }

    public char kind(int piece) throws NoSuchElementException {
        return required(piece).kind;
    }

    public int temperature(int piece) throws NoSuchElementException {
        return required(piece).temperature;
    }

    public int stages(int piece) throws NoSuchElementException {
        return required(piece).stages;
    }

    public int hardness(int piece) throws NoSuchElementException {
        return required(piece).hardness;
    }

    public boolean isInFurnace(int piece) throws NoSuchElementException {
        return required(piece).inFurnace;
    }

    public boolean isQuenched(int piece) throws NoSuchElementException {
        return required(piece).quenched;
    }

    public boolean hasPassed(int piece) throws NoSuchElementException {
        return required(piece).verdict == Verdict.PASSED;
    }

    public int stroke(int piece, int hammer) throws NoSuchElementException, IndexOutOfBoundsException {
        Piece struck = required(piece);
        return struck.stagesGained(requiredHammer(hammer).weight);
    }

    public int minutesToCool(int piece, int degrees) throws NoSuchElementException,
            IllegalArgumentException, IllegalStateException {
        checkCooling(piece, degrees);
        return foundMinutes(forecast.minutesOnCopy(forge, piece, degrees));
    }

    public int minutesToCoolAlone(int piece, int degrees) throws NoSuchElementException,
            IllegalArgumentException, IllegalStateException {
        checkCooling(piece, degrees);
        return foundMinutes(forecast.minutesAlone(forge, piece, degrees));
    }

    public int pieceAtRank(int rank) throws IndexOutOfBoundsException {
        Piece found = forge.pieceRanked(rank);
        if (found == null) {
            throw new IndexOutOfBoundsException("there is no such rank");
        }
        return found.number;
    }

    private Piece required(int number) {
        Piece found = forge.find(number);
        if (found == null) {
            throw new NoSuchElementException("there is no such piece");
        }
        return found;
    }

    private void checkCooling(int piece, int degrees) {
        if (forge.find(piece) == null) {
            throw new NoSuchElementException("there is no such piece");
        }
        if (degrees < COLD || degrees > HOTTEST) {
            throw new IllegalArgumentException("the temperature is out of range");
        }
    }

    private int foundMinutes(int minutes) {
        if (minutes == NONE) {
            throw new IllegalStateException("the piece stays hotter during the next 200 minutes");
        }
        return minutes;
    }

    // ---- queries about hammers

    public int hammerCount() {
        return forge.hammerCount;
    }

    public int weight(int hammer) throws IndexOutOfBoundsException {
        return requiredHammer(hammer).weight;
    }

    public int wear(int hammer) throws IndexOutOfBoundsException {
        return requiredHammer(hammer).wear;
    }

    public int heaviestHammer() throws NoSuchElementException {
        int best = forge.bestHammer();
        if (best == NONE) {
            throw new NoSuchElementException("there is no hammer that is not worn out");
        }
        return best;
    }

    private Hammer requiredHammer(int index) {
        Hammer found = forge.hammerIn(index);
        if (found == null) {
            throw new IndexOutOfBoundsException("there is no such hammer");
        }
        return found;
    }

    // ---- totals

    public int strokeTotal() {
        return forge.strokes;
    }

    public int birdTotal() {
        return forge.birds;
    }

    public long burntTotal() {
        return forge.furnace.burnt;
    }

    public double meanHardness() throws ArithmeticException {
        if (forge.pieceCount == 0) {
            throw new ArithmeticException("there are no pieces");
        }
        return (double) forge.sumOfHardnesses() / (double) forge.pieceCount;
    }

    public float passShare() throws ArithmeticException {
        if (forge.tests == 0) {
            throw new ArithmeticException("there were no tests");
        }
        return (float) forge.passedTests / (float) forge.tests;
    }

    public boolean isConsistent() {
        return forge.wearsMatchStrokes() && forge.testedAreQuenched() && forge.coalMatches()
                && forecast.bothWaysAgree(forge);
    }

    // ---- programs

    public int append(char character) throws IllegalStateException {
        if (program.isFull()) {
            throw new IllegalStateException("the text buffer is full");
        }
        return program.put(character);
    }

    public int run() throws IllegalArgumentException, UnsupportedOperationException {
        int error = program.read();
        program.empty();
        if (error != NONE) {
            lastErrorPosition = error;
            throw new IllegalArgumentException("the text is not a program");
        }
        int failed = firstFailure();
        if (failed != NONE) {
            lastFailedCommand = failed;
            throw new UnsupportedOperationException("a command fails");
        }
        history.prepare(forge);
        forge.copyFrom(trial);
        history.commit();
        return program.count;
    }

    public int errorPosition() throws NoSuchElementException {
        if (lastErrorPosition == NONE) {
            throw new NoSuchElementException("no error position was stored");
        }
        return lastErrorPosition;
    }

    public int failedCommand() throws NoSuchElementException {
        if (lastFailedCommand == NONE) {
            throw new NoSuchElementException("no failed command was stored");
        }
        return lastFailedCommand;
    }

    // The commands work on a copy, so that a failure leaves nothing behind.
    private int firstFailure() {
        trial.copyFrom(forge);
        for (int i = 0; i < program.count; i++) {
            if (program.carryOut(i, trial) < 0) {
                return i;
            }
        }
        return NONE;
    }

    // ---- output

    public int writePiece(int piece) throws NoSuchElementException {
        Piece written = required(piece);
        line.setLength(0);
        written.writeTo(line);
        return line.length();
    }

    public int writeFurnace() {
        line.setLength(0);
        forge.writeFurnaceTo(line);
        return line.length();
    }

    public char outputAt(int index) throws IndexOutOfBoundsException {
        if (index < 0 || index >= line.length()) {
            throw new IndexOutOfBoundsException("the line has no such index");
        }
        return line.charAt(index);
    }

    // ---- undo and snapshot

    public int undo() throws IllegalStateException {
        if (history.count == 0) {
            throw new IllegalStateException("no call can be undone");
        }
        history.takeBack(forge);
        return history.count;
    }

    public void save() {
        saved.copyFrom(forge);
        hasSaved = true;
    }

    public void restore() throws IllegalStateException {
        if (!hasSaved) {
            throw new IllegalStateException("no state was saved");
        }
        forge.copyFrom(saved);
        history.forget();
    }

    private enum Verdict { UNTESTED, PASSED, FAILED }

    private static final class Piece {
        private int number = 0;
        private char kind = BODY;
        private int temperature = COLD;
        private int stages = 0;
        private int hardness = FIRST_HARDNESS;
        private boolean inFurnace = false;
        private boolean quenched = false;
        private Verdict verdict = Verdict.UNTESTED;

        void begin(int newNumber, char newKind) {
            number = newNumber;
            kind = newKind;
            temperature = COLD;
            stages = 0;
            hardness = FIRST_HARDNESS;
            inFurnace = false;
            quenched = false;
            verdict = Verdict.UNTESTED;
        }

        void copyFrom(Piece other) {
            number = other.number;
            kind = other.kind;
            temperature = other.temperature;
            stages = other.stages;
            hardness = other.hardness;
            inFurnace = other.inFurnace;
            quenched = other.quenched;
            verdict = other.verdict;
        }

        void changeTemperature(int furnaceTemperature) {
            if (!inFurnace) {
                temperature -= (temperature - COLD) / 8;
            } else if (temperature < furnaceTemperature) {
                temperature += (furnaceTemperature - temperature) / 4;
            } else {
                temperature -= (temperature - furnaceTemperature) / 4;
            }
        }

        void temper() {
            if (!quenched) {
                return;
            }
            if (temperature >= 200 && temperature <= 400) {
                hardness = Math.max(0, hardness - 1);
            }
            if (temperature >= 700) {
                quenched = false;
                verdict = Verdict.UNTESTED;
                hardness = FIRST_HARDNESS;
            }
        }

        int stagesGained(int weight) {
            int excess = Math.max(0, temperature - 500);
            return Math.min(1 + weight * excess / 1000, MAX_STAGES - stages);
        }

        void harden(int gain) {
            hardness = Math.min(MAX_HARDNESS, hardness + gain);
        }

        boolean meetsTest() {
            return stages == MAX_STAGES && hardness >= 40 && hardness <= 70;
        }

        boolean isReadyForBird() {
            return !inFurnace && verdict == Verdict.PASSED;
        }

        boolean ranksBefore(Piece other) {
            if (hardness != other.hardness) {
                return hardness > other.hardness;
            }
            if (stages != other.stages) {
                return stages > other.stages;
            }
            return number < other.number;
        }

        void writeTo(StringBuilder out) {
            out.append(number).append(kind).append(':').append(temperature);
            out.append('/').append(stages).append('/').append(hardness);
            if (inFurnace) {
                out.append('*');
            }
            if (quenched) {
                out.append('q');
            }
            if (verdict == Verdict.PASSED) {
                out.append('+');
            }
            if (verdict == Verdict.FAILED) {
                out.append('-');
            }
        }
    }

    private static final class Hammer {
        private int weight = 1;
        private int wear = 0;

        void begin(int newWeight) {
            weight = newWeight;
            wear = 0;
        }

        void copyFrom(Hammer other) {
            weight = other.weight;
            wear = other.wear;
        }

        boolean isWornOut() {
            return wear >= MAX_WEAR;
        }

        boolean isBetterThan(Hammer other) {
            if (weight != other.weight) {
                return weight > other.weight;
            }
            return wear < other.wear;
        }
    }

    private static final class Furnace {
        private int temperature = COLD;
        private int level = 0;
        private int coal = FIRST_COAL;
        private long burnt = 0;

        void copyFrom(Furnace other) {
            temperature = other.temperature;
            level = other.level;
            coal = other.coal;
            burnt = other.burnt;
        }

        void passMinute() {
            burn();
            temperature -= (temperature - COLD) / 20;
        }

        private void burn() {
            if (coal < level) {
                level = 0;
                return;
            }
            coal -= level;
            burnt += level;
            temperature = Math.min(HOTTEST, temperature + 20 * level);
        }
    }

    /** All that undo, save and restore concern. */
    private static final class Forge {
        private final Furnace furnace = new Furnace();
        private final Piece[] pieces = new Piece[MAX_PIECES];
        private final Hammer[] hammers = new Hammer[MAX_HAMMERS];
        private int pieceCount = 0;
        private int hammerCount = 0;
        private int lastNumber = 0;
        private int time = 0;
        private int strokes = 0;
        private int birds = 0;
        private int tests = 0;
        private int passedTests = 0;
        private long addedCoal = 0;

        Forge() {
            for (int i = 0; i < pieces.length; i++) {
                pieces[i] = new Piece();
            }
            for (int i = 0; i < hammers.length; i++) {
                hammers[i] = new Hammer();
            }
        }

        void copyFrom(Forge other) {
            furnace.copyFrom(other.furnace);
            for (int i = 0; i < MAX_PIECES; i++) {
                pieces[i].copyFrom(other.pieces[i]);
            }
            for (int i = 0; i < MAX_HAMMERS; i++) {
                hammers[i].copyFrom(other.hammers[i]);
            }
            pieceCount = other.pieceCount;
            hammerCount = other.hammerCount;
            lastNumber = other.lastNumber;
            time = other.time;
            strokes = other.strokes;
            birds = other.birds;
            tests = other.tests;
            passedTests = other.passedTests;
            addedCoal = other.addedCoal;
        }

        Piece pieceIn(int position) {
            if (position < 0 || position >= pieceCount) {
                return null;
            }
            return pieces[position];
        }

        Hammer hammerIn(int index) {
            if (index < 0 || index >= hammerCount) {
                return null;
            }
            return hammers[index];
        }

        Piece find(int number) {
            for (int i = 0; i < pieceCount; i++) {
                if (pieces[i].number == number) {
                    return pieces[i];
                }
            }
            return null;
        }

        int storeCoal(int units) {
            if (units < 1 || units > MAX_ADDED_COAL) {
                return BAD_ARGUMENT;
            }
            if (furnace.coal + units > MAX_COAL) {
                return BAD_STATE;
            }
            furnace.coal += units;
            addedCoal += units;
            return furnace.coal;
        }

        int changeLevel(int level) {
            if (level < 0 || level > MAX_LEVEL) {
                return BAD_ARGUMENT;
            }
            int previous = furnace.level;
            furnace.level = level;
            return previous;
        }

        int passMinutes(int minutes) {
            if (minutes < 1 || minutes > MAX_ADVANCE) {
                return BAD_ARGUMENT;
            }
            for (int i = 0; i < minutes; i++) {
                passMinute();
            }
            return furnace.temperature;
        }

        void passMinute() {
            time++;
            furnace.passMinute();
            for (int i = 0; i < pieceCount; i++) {
                pieces[i].changeTemperature(furnace.temperature);
            }
            for (int i = 0; i < pieceCount; i++) {
                pieces[i].temper();
            }
        }

        int newPiece(char kind) {
            if (kind != BODY && kind != NECK && kind != WING) {
                return BAD_ARGUMENT;
            }
            if (pieceCount >= MAX_PIECES) {
                return BAD_STATE;
            }
            lastNumber++;
            pieces[pieceCount].begin(lastNumber, kind);
            pieceCount++;
            return lastNumber;
        }

        int newHammer(int weight) {
            if (weight < 1 || weight > MAX_WEIGHT) {
                return BAD_ARGUMENT;
            }
            if (hammerCount >= MAX_HAMMERS) {
                return BAD_STATE;
            }
            hammers[hammerCount].begin(weight);
            hammerCount++;
            return hammerCount - 1;
        }

        int intoFurnace(int number) {
            Piece piece = find(number);
            if (piece == null) {
                return NO_PIECE;
            }
            if (piece.inFurnace || countInFurnace() >= MAX_IN_FURNACE) {
                return BAD_STATE;
            }
            piece.inFurnace = true;
            return countInFurnace();
        }

        int ontoBench(int number) {
            Piece piece = find(number);
            if (piece == null) {
                return NO_PIECE;
            }
            if (!piece.inFurnace) {
                return BAD_STATE;
            }
            piece.inFurnace = false;
            return piece.temperature;
        }

        int strike(int number, int index) {
            Piece piece = find(number);
            if (piece == null) {
                return NO_PIECE;
            }
            Hammer hammer = hammerIn(index);
            if (hammer == null) {
                return NO_HAMMER;
            }
            if (piece.inFurnace || piece.quenched || piece.stages >= MAX_STAGES || hammer.isWornOut()) {
                return BAD_STATE;
            }
            if (piece.temperature < 600 || piece.temperature > 1100) {
                return BAD_TEMPERATURE;
            }
            piece.stages += piece.stagesGained(hammer.weight);
            piece.harden(2);
            hammer.wear++;
            strokes++;
            return piece.stages;
        }

        int chill(int number) {
            Piece piece = find(number);
            if (piece == null) {
                return NO_PIECE;
            }
            if (piece.inFurnace || piece.quenched) {
                return BAD_STATE;
            }
            if (piece.temperature < 700) {
                return BAD_TEMPERATURE;
            }
            piece.harden((piece.temperature - 600) / 8);
            piece.temperature = COLD;
            piece.quenched = true;
            return piece.hardness;
        }

        int examine(int number) {
            Piece piece = find(number);
            if (piece == null) {
                return NO_PIECE;
            }
            if (piece.inFurnace || !piece.quenched || piece.verdict != Verdict.UNTESTED) {
                return BAD_STATE;
            }
            if (piece.temperature > 60) {
                return BAD_TEMPERATURE;
            }
            tests++;
            if (!piece.meetsTest()) {
                piece.verdict = Verdict.FAILED;
                return 0;
            }
            piece.verdict = Verdict.PASSED;
            passedTests++;
            return 1;
        }

        int join(int bodyNumber, int neckNumber, int wingNumber, int otherNumber) {
            Piece body = find(bodyNumber);
            Piece neck = find(neckNumber);
            Piece wing = find(wingNumber);
            Piece other = find(otherNumber);
            if (body == null || neck == null || wing == null || other == null) {
                return NO_PIECE;
            }
            if (body.kind != BODY || neck.kind != NECK || wing.kind != WING || other.kind != WING
                    || wing == other) {
                return BAD_ARGUMENT;
            }
            if (!body.isReadyForBird() || !neck.isReadyForBird() || !wing.isReadyForBird()
                    || !other.isReadyForBird()) {
                return BAD_STATE;
            }
            remove(bodyNumber);
            remove(neckNumber);
            remove(wingNumber);
            remove(otherNumber);
            birds++;
            return birds;
        }

        int throwAway(int number) {
            if (find(number) == null) {
                return NO_PIECE;
            }
            remove(number);
            return pieceCount;
        }

        // The pieces stay in the order of their numbers; the removed object waits behind them for reuse.
        private void remove(int number) {
            int kept = 0;
            for (int i = 0; i < pieceCount; i++) {
                Piece piece = pieces[i];
                if (piece.number != number) {
                    pieces[i] = pieces[kept];
                    pieces[kept] = piece;
                    kept++;
                }
            }
            pieceCount = kept;
        }

        int countInFurnace() {
            int sum = 0;
            for (int i = 0; i < pieceCount; i++) {
                if (pieces[i].inFurnace) {
                    sum++;
                }
            }
            return sum;
        }

        Piece pieceRanked(int rank) {
            for (int i = 0; i < pieceCount; i++) {
                if (rankOf(pieces[i]) == rank) {
                    return pieces[i];
                }
            }
            return null;
        }

        private int rankOf(Piece piece) {
            int rank = 0;
            for (int i = 0; i < pieceCount; i++) {
                if (pieces[i].ranksBefore(piece)) {
                    rank++;
                }
            }
            return rank;
        }

        int bestHammer() {
            int best = NONE;
            for (int i = 0; i < hammerCount; i++) {
                if (hammers[i].isWornOut()) {
                    continue;
                }
                if (best == NONE || hammers[i].isBetterThan(hammers[best])) {
                    best = i;
                }
            }
            return best;
        }

        int sumOfHardnesses() {
            int sum = 0;
            for (int i = 0; i < pieceCount; i++) {
                sum += pieces[i].hardness;
            }
            return sum;
        }

        boolean wearsMatchStrokes() {
            int sum = 0;
            for (int i = 0; i < hammerCount; i++) {
                sum += hammers[i].wear;
            }
            return sum == strokes;
        }

        boolean testedAreQuenched() {
            for (int i = 0; i < pieceCount; i++) {
                if (pieces[i].verdict != Verdict.UNTESTED && !pieces[i].quenched) {
                    return false;
                }
            }
            return true;
        }

        boolean coalMatches() {
            return addedCoal + FIRST_COAL == furnace.coal + furnace.burnt;
        }

        void writeFurnaceTo(StringBuilder out) {
            out.append(furnace.temperature).append('@').append(furnace.level).append('#').append(furnace.coal);
            for (int i = 0; i < pieceCount; i++) {
                if (pieces[i].inFurnace) {
                    out.append(' ').append(pieces[i].number);
                }
            }
        }
    }

    /** The states before the most recent changing calls, in a ring. */
    private static final class History {
        private final Forge[] slots = new Forge[UNDO_SLOTS];
        private int next = 0;
        private int count = 0;

        History() {
            for (int i = 0; i < slots.length; i++) {
                slots[i] = new Forge();
            }
        }

        void prepare(Forge forge) {
            slots[next].copyFrom(forge);
        }

        void commit() {
            next = next + 1 < UNDO_SLOTS ? next + 1 : 0;
            count = Math.min(UNDO_DEPTH, count + 1);
        }

        void takeBack(Forge forge) {
            next = next > 0 ? next - 1 : UNDO_SLOTS - 1;
            count = Math.max(0, count - 1);
            forge.copyFrom(slots[next]);
        }

        void forget() {
            count = 0;
        }
    }

    /** Looks ahead on copies, so that the forge itself stays as it is. */
    private static final class Forecast {
        private final Forge copy = new Forge();
        private final Furnace loneFurnace = new Furnace();
        private final Piece lonePiece = new Piece();

        int furnaceIn(Forge forge, int minutes) {
            loneFurnace.copyFrom(forge.furnace);
            for (int i = 0; i < minutes; i++) {
                loneFurnace.passMinute();
            }
            return loneFurnace.temperature;
        }

        int minutesOnCopy(Forge forge, int number, int degrees) {
            copy.copyFrom(forge);
            Piece piece = copy.find(number);
            if (piece == null) {
                return NONE;
            }
            for (int minutes = 0; minutes <= MAX_FORECAST; minutes++) {
                if (piece.temperature <= degrees) {
                    return minutes;
                }
                copy.passMinute();
            }
            return NONE;
        }

        int minutesAlone(Forge forge, int number, int degrees) {
            Piece piece = forge.find(number);
            if (piece == null) {
                return NONE;
            }
            loneFurnace.copyFrom(forge.furnace);
            lonePiece.copyFrom(piece);
            for (int minutes = 0; minutes <= MAX_FORECAST; minutes++) {
                if (lonePiece.temperature <= degrees) {
                    return minutes;
                }
                loneFurnace.passMinute();
                lonePiece.changeTemperature(loneFurnace.temperature);
            }
            return NONE;
        }

        boolean bothWaysAgree(Forge forge) {
            for (int i = 0; i < forge.pieceCount; i++) {
                int number = forge.pieces[i].number;
                if (minutesOnCopy(forge, number, COLD) != minutesAlone(forge, number, COLD)) {
                    return false;
                }
            }
            return true;
        }
    }

    /** The commands' words, and their arguments: n for a number, d for a digit, k for a kind. */
    private enum Command {
        COAL("coal ", "n"),
        BELLOWS("bellows ", "d"),
        PIECE("piece ", "k"),
        TOOL("tool ", "d"),
        IN("in ", "n"),
        OUT("out ", "n"),
        HAMMER("hammer ", "nd"),
        QUENCH("quench ", "n"),
        TEST("test ", "n"),
        BIRD("bird ", "nnnn"),
        SCRAP("scrap ", "n"),
        WAIT("wait ", "n");

        private final String word;
        private final String shape;

        Command(String word, String shape) {
            this.word = word;
            this.shape = shape;
        }
    }

    /** The text buffer, and the commands that were read from it. */
    private static final class Program {
        private final char[] text = new char[MAX_TEXT];
        private final Command[] commands = new Command[MAX_COMMANDS];
        private final int[][] arguments = new int[MAX_COMMANDS][MAX_ARGUMENTS];
        private int length = 0;
        private int count = 0;
        private int position = 0;

        Program() {
            for (int i = 0; i < commands.length; i++) {
                commands[i] = Command.WAIT;
            }
        }

        boolean isFull() {
            return length >= MAX_TEXT;
        }

        int put(char character) {
            if (length < MAX_TEXT) {
                text[length] = character;
                length++;
            }
            return length;
        }

        void empty() {
            length = 0;
        }

        /** Answers the error position, or NONE if the text is a program. */
        int read() {
            count = 0;
            position = 0;
            while (count < MAX_COMMANDS) {
                if (!readCommand()) {
                    return position;
                }
                count++;
                if (position >= length) {
                    return NONE;
                }
                if (!accept(';')) {
                    return position;
                }
            }
            // So many commands with a ";" behind each fill the whole buffer, so the text has ended here.
            return position;
        }

        // On failure the position stays at the first character that cannot stand where it stands.
        private boolean readCommand() {
            Command command = readWord();
            if (command == null) {
                return false;
            }
            commands[count] = command;
            String shape = command.shape;
            for (int i = 0; i < MAX_ARGUMENTS && i < shape.length(); i++) {
                if (i > 0 && !accept(' ')) {
                    return false;
                }
                if (!readArgument(shape.charAt(i), i)) {
                    return false;
                }
            }
            return true;
        }

        // No word begins with another one, so at most one of them stands here whole.
        private Command readWord() {
            int longest = 0;
            for (int i = 0; i < COMMANDS.length; i++) {
                String word = COMMANDS[i].word;
                int common = commonLength(word);
                if (common == word.length()) {
                    position += common;
                    return COMMANDS[i];
                }
                longest = Math.max(longest, common);
            }
            position += longest;
            return null;
        }

        private int commonLength(String word) {
            int common = 0;
            while (common < word.length() && position + common < length
                    && text[position + common] == word.charAt(common)) {
                common++;
            }
            return common;
        }

        private boolean readArgument(char form, int index) {
            if (form == 'k') {
                return readKind(index);
            }
            int number = digitHere();
            if (number == NONE) {
                return false;
            }
            position++;
            int second = digitHere();
            if (form == 'n' && second != NONE) {
                number = 10 * number + second;
                position++;
            }
            arguments[count][index] = number;
            return true;
        }

        private boolean readKind(int index) {
            if (accept(BODY)) {
                arguments[count][index] = BODY;
            } else if (accept(NECK)) {
                arguments[count][index] = NECK;
            } else if (accept(WING)) {
                arguments[count][index] = WING;
            } else {
                return false;
            }
            return true;
        }

        private boolean accept(char character) {
            if (position >= length || text[position] != character) {
                return false;
            }
            position++;
            return true;
        }

        private int digitHere() {
            if (position >= length || text[position] < '0' || text[position] > '9') {
                return NONE;
            }
            return text[position] - '0';
        }

        /** Answers what the command's change answers: a negative number if it is refused. */
        int carryOut(int index, Forge forge) {
            int[] given = arguments[index];
            switch (commands[index]) {
                case COAL:
                    return forge.storeCoal(given[0]);
                case BELLOWS:
                    return forge.changeLevel(given[0]);
                case PIECE:
                    return forge.newPiece((char) given[0]);
                case TOOL:
                    return forge.newHammer(given[0]);
                case IN:
                    return forge.intoFurnace(given[0]);
                case OUT:
                    return forge.ontoBench(given[0]);
                case HAMMER:
                    return forge.strike(given[0], given[1]);
                case QUENCH:
                    return forge.chill(given[0]);
                case TEST:
                    return forge.examine(given[0]);
                case BIRD:
                    return forge.join(given[0], given[1], given[2], given[3]);
                case SCRAP:
                    return forge.throwAway(given[0]);
                default:
                    return forge.passMinutes(given[0]);
            }
        }
    }
}
