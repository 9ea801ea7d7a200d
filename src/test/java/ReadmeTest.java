import java.io.IOException;
import java.io.UncheckedIOException;
import java.nio.charset.StandardCharsets;
import java.nio.file.Files;
import java.nio.file.Path;
import java.util.ArrayList;
import java.util.Collections;
import java.util.List;
import java.util.regex.Matcher;
import java.util.regex.Pattern;
import java.util.stream.Stream;

/** What README.md shows is what the class answers; run from the project's root. */
public final class ReadmeTest {
    private static final Path SMITH = Path.of("src/test/java/Smith.java");

    public static void main(String[] args) throws IOException, InterruptedException {
        carryOut();
        String page = read(Path.of("README.md"));
        examplesStandHere(blocks(page, "java"));
        tablesFollowTheFace(page);
        commandsOfProgramsAreRead(page);
        commandsWork(blocks(page, "sh"), blocks(page, "text").get(0));
        Check.finish();
    }

    private static void carryOut() {
        furnace();
        piecesAndHammers();
        askingAboutPieces();
        hammersAndTotals();
        exceptions();
        programs();
        outputLine();
        undoSaveRestore();
    }

    private static void furnace() {
        BirdForge forge = new BirdForge();
        due("20", forge.coal());
        due("70", forge.addCoal(50));
        due("0", forge.setBellows(5));
        due("14", forge.coalMinutes());
        due("786", forge.furnaceAfter(10));
        due("20", forge.furnace());
        due("998", forge.advance(14));
        due("14", forge.time());
        due("70", forge.burntTotal());
        due("0", forge.coal());
        due("5", forge.bellows());
        due("950", forge.advance(1));
        due("0", forge.bellows());
        refused("ArithmeticException", () -> forge.coalMinutes());
    }

    private static void piecesAndHammers() {
        BirdForge forge = new BirdForge();
        due("1", forge.addPiece('w'));
        due("0", forge.addHammer(9));
        due("70", forge.addCoal(50));
        due("0", forge.setBellows(5));
        due("1", forge.putIn(1));
        due("998", forge.advance(14));
        due("828", forge.takeOut(1));
        due("3", forge.stroke(1, 0));
        due("3", forge.minutesToCool(1, 600));
        due("3", forge.hammer(1, 0));
        due("6", forge.hammer(1, 0));
        due("9", forge.hammer(1, 0));
        due("10", forge.hammer(1, 0));
        refused("IllegalStateException", () -> forge.hammer(1, 0));
        due("4", forge.wear(0));
        due("18", forge.hardness(1));
        due("46", forge.quench(1));
        due("20", forge.temperature(1));
        due("true", forge.test(1));
        due("0", forge.scrap(1));
    }

    private static void askingAboutPieces() {
        BirdForge forge = new BirdForge();
        due("1", forge.addPiece('b'));
        due("2", forge.addPiece('n'));
        due("3", forge.addPiece('w'));
        due("2", forge.scrap(2));
        due("false", forge.exists(2));
        due("4", forge.addPiece('w'));
        due("3", forge.pieceCount());
        due("3", forge.pieceAt(1));
        refused("IndexOutOfBoundsException", () -> forge.pieceAt(3));
        due("'w'", forge.kind(4));
        due("0", forge.stages(4));
        due("false", forge.isInFurnace(4));
        due("false", forge.isQuenched(4));
        due("false", forge.hasPassed(4));
        due("1", forge.pieceAtRank(0));
        due("0", forge.minutesToCool(4, 20));
        due("0", forge.minutesToCoolAlone(4, 20));
        refused("IllegalArgumentException", () -> forge.minutesToCool(4, 19));
    }

    private static void hammersAndTotals() {
        BirdForge forge = new BirdForge();
        refused("NoSuchElementException", () -> forge.heaviestHammer());
        due("0", forge.addHammer(4));
        due("1", forge.addHammer(6));
        due("2", forge.hammerCount());
        due("1", forge.heaviestHammer());
        due("6", forge.weight(1));
        refused("IndexOutOfBoundsException", () -> forge.weight(2));
        refused("ArithmeticException", () -> forge.meanHardness());
        due("1", forge.addPiece('n'));
        due("10.0", forge.meanHardness());
        refused("ArithmeticException", () -> forge.passShare());
        due("0", forge.strokeTotal());
        due("0", forge.birdTotal());
        due("true", forge.isConsistent());
    }

    private static void exceptions() {
        BirdForge forge = new BirdForge();
        due("1", forge.addPiece('b'));
        refused("IllegalArgumentException", () -> forge.addPiece('x'));
        refused("IllegalArgumentException", () -> forge.advance(61));
        due("70", forge.addCoal(50));
        refused("IllegalStateException", () -> forge.addCoal(50));
        refused("IllegalStateException", () -> forge.takeOut(1));
        refused("NoSuchElementException", () -> forge.takeOut(2));
        refused("NoSuchElementException", () -> forge.hammer(2, 0));
        refused("IndexOutOfBoundsException", () -> forge.hammer(1, 0));
        refused("UnsupportedOperationException", () -> forge.quench(1));
        due("70", forge.coal());
        due("1", forge.undo());
    }

    private static void programs() {
        BirdForge forge = new BirdForge();
        type(forge, "coal 50;bellows 5;piece w;in 1;wait 14;out 1");
        due("6", forge.run());
        due("828", forge.temperature(1));
        type(forge, "wait 5;wiat 5");
        refused("IllegalArgumentException", () -> forge.run());
        due("8", forge.errorPosition());
        type(forge, "wait 5;");
        refused("IllegalArgumentException", () -> forge.run());
        due("7", forge.errorPosition());
        type(forge, "wait 5;in 1;in 2");
        refused("UnsupportedOperationException", () -> forge.run());
        due("2", forge.failedCommand());
        due("14", forge.time());
        due("false", forge.isInFurnace(1));
        due("1", forge.append(';'));
        due("0", forge.undo());
        due("false", forge.exists(1));
        due("20", forge.coal());
    }

    private static void outputLine() {
        BirdForge forge = new BirdForge();
        refused("IndexOutOfBoundsException", () -> forge.outputAt(0));
        type(forge, "coal 50;bellows 5;piece b;piece w;in 1;in 2;wait 12");
        due("7", forge.run());
        due("12", forge.writeFurnace());
        due("'8'", forge.outputAt(0));
        due("897@5#10 1 2", line(forge, 12));
        due("2w:714/0/10*", line(forge, forge.writePiece(2)));
        refused("IndexOutOfBoundsException", () -> forge.outputAt(13));
        type(forge, "wait 2;out 2;quench 2;test 2");
        due("4", forge.run());
        due("2w:20/0/38q-", line(forge, forge.writePiece(2)));
        due("998@5#0 1", line(forge, forge.writeFurnace()));
    }

    private static void undoSaveRestore() {
        BirdForge forge = new BirdForge();
        refused("IllegalStateException", () -> forge.undo());
        due("30", forge.addCoal(10));
        due("1", forge.addPiece('w'));
        due("20", forge.advance(5));
        due("2", forge.undo());
        due("0", forge.time());
        due("1", forge.undo());
        due("false", forge.exists(1));
        due("1", forge.addPiece('b'));
        refused("IllegalStateException", () -> forge.restore());
        forge.save();
        due("0", forge.setBellows(5));
        due("115", forge.advance(1));
        forge.restore();
        due("20", forge.furnace());
        due("30", forge.coal());
        due("'b'", forge.kind(1));
        refused("IllegalStateException", () -> forge.undo());
        due("0", forge.scrap(1));
        forge.restore();
        due("true", forge.exists(1));
    }

    private static void type(BirdForge forge, String text) {
        for (char character : text.toCharArray()) {
            forge.append(character);
        }
    }

    private static String line(BirdForge forge, int length) {
        StringBuilder text = new StringBuilder();
        for (int i = 0; i < length; i++) {
            text.append(forge.outputAt(i));
        }
        return text.toString();
    }

    private static void due(String due, Object got) {
        Check.same("an answer in README.md", due, got instanceof Character ? "'" + got + "'" : String.valueOf(got));
    }

    private static void refused(String due, Check.Action call) {
        Check.same("an exception in README.md", due, Check.outcome(() -> {
            call.act();
            return "nothing";
        }));
    }

    private static String read(Path file) {
        try {
            return Files.readString(file, StandardCharsets.UTF_8);
        } catch (IOException thrown) {
            throw new UncheckedIOException(thrown);
        }
    }

    private static List<String> blocks(String page, String language) {
        List<String> blocks = new ArrayList<>();
        Matcher matcher = Pattern.compile("(?s)```" + language + "\n(.*?)```").matcher(page);
        while (matcher.find()) {
            blocks.add(matcher.group(1));
        }
        return blocks;
    }

    /** The first block is the whole program; of the other ones each line has to stand here, in their order. */
    private static void examplesStandHere(List<String> blocks) {
        Check.same("the whole program", read(SMITH), blocks.get(0));
        List<String> own = trimmed(read(Path.of("src/test/java/ReadmeTest.java")));
        int calls = 0;
        for (String block : blocks.subList(1, blocks.size())) {
            List<String> asked = trimmed(block).stream().map(ReadmeTest::asRow).toList();
            Check.yes("stands in ReadmeTest: " + asked, Collections.indexOfSubList(own, asked) >= 0);
            calls += asked.stream().filter(ReadmeTest::isRow).count();
        }
        Check.same("calls with their answers", own.stream().filter(ReadmeTest::isRow).count(), (long) calls);
    }

    private static List<String> trimmed(String text) {
        return text.lines().map(String::trim).toList();
    }

    // In the page a line is "call; // answer: words"; a method is one without the comment.
    private static String asRow(String shown) {
        Matcher matcher = Pattern.compile("(.*);\\s+// (.*?)(: .*)?").matcher(shown);
        if (!matcher.matches()) {
            return shown;
        }
        boolean isRefusal = matcher.group(2).endsWith("Exception");
        String start = isRefusal ? "refused(\"" : "due(\"";
        return start + matcher.group(2) + (isRefusal ? "\", () -> " : "\", ") + matcher.group(1) + ");";
    }

    private static boolean isRow(String line) {
        return line.matches("(due|refused)\\(\".*\\);");
    }

    /** Each call has one row, with the document's arguments and its exceptions in their order. */
    private static void tablesFollowTheFace(String page) {
        List<String> shown = new ArrayList<>();
        Matcher row = Pattern.compile("(?m)^\\| `(\\w+\\(.*?\\))` \\|.*\\|(.*)\\|$").matcher(page);
        while (row.find()) {
            shown.add(row.group(1) + exceptions(row.group(2)));
        }
        List<String> due = new ArrayList<>();
        for (String declaration : Document.face()) {
            Matcher method = Pattern.compile("public \\w+ (\\w+\\(.*\\))(.*);").matcher(declaration);
            if (method.matches()) {
                due.add(method.group(1).replaceAll("(int|char) ", "") + exceptions(method.group(2)));
            }
        }
        Collections.sort(due);
        Collections.sort(shown);
        Check.same("the tables' calls", due, shown);
    }

    private static String exceptions(String text) {
        StringBuilder names = new StringBuilder();
        Matcher matcher = Pattern.compile("\\w+Exception").matcher(text);
        while (matcher.find()) {
            names.append(' ').append(matcher.group());
        }
        return names.toString();
    }

    private static void commandsOfProgramsAreRead(String page) {
        Matcher row = Pattern.compile("(?m)^\\| `[a-z]+` .*\\| `([a-z ]+[0-9bnw ]+)` \\|$").matcher(page);
        int rows = 0;
        while (row.find()) {
            String outcome = Check.runOutcome(new BirdForge(), row.group(1));
            Check.same("no program: " + row.group(1), false, outcome.equals("IllegalArgumentException"));
            rows++;
        }
        Check.same("commands", 12, rows);
    }

    /** The page's commands work in a copy of the project that has nothing but its sources beside the given tests. */
    private static void commandsWork(List<String> commands, String dueOfSmith)
            throws IOException, InterruptedException {
        Path top = Files.createTempDirectory("readme");
        copy(Path.of("src"), top.resolve("project/src"));
        copy(Path.of("../shared/tests"), top.resolve("shared/tests"));
        for (int i = 0; i < commands.size(); i++) {
            if (!namesWhatIsThere(commands.get(i))) {
                continue;
            }
            Path output = top.resolve("output" + i);
            Process process = new ProcessBuilder("sh", "-e", "-c", commands.get(i))
                    .directory(top.resolve("project").toFile()).redirectError(ProcessBuilder.Redirect.INHERIT)
                    .redirectOutput(output.toFile()).start();
            int code = process.waitFor();
            Check.same(commands.get(i) + read(output) + "exit code", 0, code);
            if (commands.get(i).contains("Smith")) {
                Check.same("output of " + commands.get(i), dueOfSmith, read(output));
            }
        }
        remove(top);
    }

    // The given tests are not the project's own: one that is named here may be gone some day.
    private static boolean namesWhatIsThere(String commands) {
        return Stream.of(commands.split("\\s+")).filter(word -> word.startsWith("../shared/"))
                .allMatch(word -> Files.exists(Path.of(word)));
    }

    private static void copy(Path from, Path to) throws IOException {
        try (Stream<Path> files = Files.walk(from)) {
            for (Path file : files.filter(Files::isRegularFile).toList()) {
                Path target = to.resolve(from.relativize(file));
                Files.createDirectories(target.getParent());
                Files.copy(file, target);
            }
        }
    }

    private static void remove(Path top) throws IOException {
        try (Stream<Path> files = Files.walk(top)) {
            for (Path file : files.sorted(Collections.reverseOrder()).toList()) {
                Files.delete(file);
            }
        }
    }
}
