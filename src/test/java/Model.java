import java.util.ArrayDeque;
import java.util.ArrayList;
import java.util.Deque;
import java.util.HashMap;
import java.util.List;
import java.util.Map;
import java.util.NoSuchElementException;
import java.util.TreeMap;
import java.util.function.IntFunction;
import java.util.regex.Matcher;
import java.util.regex.Pattern;

/**
 * The document once more, written in another way for comparison: the state is one map of names to numbers,
 * the grammar is a regular expression, and an error position is found by asking for every prefix.
 */
final class Model {
    private static final String NUMBER = "\\p{Digit}\\p{Digit}?";
    private static final String COMMAND = "(?:(?:coal|in|out|quench|test|scrap|wait) " + NUMBER
            + "|(?:bellows|tool) \\p{Digit}|piece [bnw]|hammer " + NUMBER + " \\p{Digit}"
            + "|bird " + NUMBER + " " + NUMBER + " " + NUMBER + " " + NUMBER + ")";
    private static final Pattern PROGRAM = Pattern.compile(COMMAND + "(?:;" + COMMAND + ")*");

    private Map<String, Integer> state = new HashMap<>();
    private Map<String, Integer> saved = null;
    private final Deque<Map<String, Integer>> past = new ArrayDeque<>();
    private String text = "";
    private String line = "";
    private int errorPosition = -1;
    private int failedCommand = -1;

    Model() {
        state.put("furnace", 20);
        state.put("coal", 20);
        state.put("next", 1);
    }

    /** Carries out a call with its arguments and answers what BirdForge's method should answer, as text. */
    String call(String name, int... a) {
        switch (name) {
            case "addCoal", "setBellows", "advance", "addPiece", "addHammer", "putIn", "takeOut", "hammer",
                    "quench", "test", "assemble", "scrap":
                return changing(() -> change(name, a));
            case "run":
                return changing(this::run);
            case "undo":
                need(!past.isEmpty(), new IllegalStateException());
                state = past.pop();
                return "" + past.size();
            case "save":
                saved = new HashMap<>(state);
                return "nothing";
            case "restore":
                need(saved != null, new IllegalStateException());
                state = new HashMap<>(saved);
                past.clear();
                return "nothing";
            case "append":
                need(text.length() < 60, new IllegalStateException());
                text += (char) a[0];
                return "" + text.length();
            default:
                return query(name, a);
        }
    }

    private interface Step {
        String go();
    }

    private String changing(Step step) {
        Map<String, Integer> before = new HashMap<>(state);
        try {
            String answer = step.go();
            past.push(before);
            if (past.size() > 8) {
                past.removeLast();
            }
            return answer;
        } catch (RuntimeException refusal) {
            state = before;
            throw refusal;
        }
    }

    private static void need(boolean fine, RuntimeException otherwise) {
        if (!fine) {
            throw otherwise;
        }
    }

    private static void range(int value, int least, int most) {
        need(value >= least && value <= most, new IllegalArgumentException());
    }

    private int get(String name) {
        return state.getOrDefault(name, 0);
    }

    private int of(int piece, String name) {
        return get("p" + piece + name);
    }

    private void set(int piece, String name, int value) {
        state.put("p" + piece + name, value);
    }

    private void add(String name, int value) {
        state.merge(name, value, Integer::sum);
    }

    private List<Integer> pieces() {
        List<Integer> found = new ArrayList<>();
        for (int i = 1; i < get("next"); i++) {
            if (state.containsKey("p" + i + "kind")) {
                found.add(i);
            }
        }
        return found;
    }

    private long inside() {
        return pieces().stream().filter(p -> of(p, "in") == 1).count();
    }

    private void needPiece(int piece) {
        need(state.containsKey("p" + piece + "kind"), new NoSuchElementException());
    }

    private void needHammer(int hammer) {
        need(hammer >= 0 && hammer < get("hammers"), new IndexOutOfBoundsException());
    }

    private void needState(boolean fine) {
        need(fine, new IllegalStateException());
    }

    private String change(String name, int... a) {
        switch (name) {
            case "addCoal":
                range(a[0], 1, 50);
                needState(get("coal") + a[0] <= 99);
                add("coal", a[0]);
                return "" + get("coal");
            case "setBellows":
                range(a[0], 0, 5);
                int level = get("level");
                state.put("level", a[0]);
                return "" + level;
            case "advance":
                range(a[0], 1, 60);
                for (int i = 0; i < a[0]; i++) {
                    minute();
                }
                return "" + get("furnace");
            case "addPiece":
                need("bnw".indexOf(a[0]) >= 0, new IllegalArgumentException());
                needState(pieces().size() < 8);
                int piece = get("next");
                add("next", 1);
                set(piece, "kind", a[0]);
                set(piece, "temp", 20);
                set(piece, "hard", 10);
                return "" + piece;
            case "addHammer":
                range(a[0], 1, 9);
                needState(get("hammers") < 4);
                state.put("w" + get("hammers"), a[0]);
                add("hammers", 1);
                return "" + (get("hammers") - 1);
            case "assemble":
                return assemble(a);
            default:
                needPiece(a[0]);
                return changePiece(name, a[0], a.length > 1 ? a[1] : 0);
        }
    }

    private String changePiece(String name, int piece, int hammer) {
        boolean in = of(piece, "in") == 1;
        boolean quenched = of(piece, "quenched") == 1;
        int temp = of(piece, "temp");
        switch (name) {
            case "putIn":
                needState(!in && inside() < 3);
                set(piece, "in", 1);
                return "" + inside();
            case "takeOut":
                needState(in);
                set(piece, "in", 0);
                return "" + temp;
            case "hammer":
                needHammer(hammer);
                needState(!in && !quenched && of(piece, "stages") < 10 && get("wear" + hammer) < 20);
                need(temp >= 600 && temp <= 1100, new UnsupportedOperationException());
                int more = 1 + get("w" + hammer) * (temp - 500) / 1000;
                set(piece, "stages", Math.min(10, of(piece, "stages") + more));
                set(piece, "hard", Math.min(99, of(piece, "hard") + 2));
                add("wear" + hammer, 1);
                add("strokes", 1);
                return "" + of(piece, "stages");
            case "quench":
                needState(!in && !quenched);
                need(temp >= 700, new UnsupportedOperationException());
                set(piece, "hard", Math.min(99, of(piece, "hard") + (temp - 600) / 8));
                set(piece, "temp", 20);
                set(piece, "quenched", 1);
                return "" + of(piece, "hard");
            case "test":
                needState(!in && quenched && of(piece, "verdict") == 0);
                need(temp <= 60, new UnsupportedOperationException());
                boolean passes = of(piece, "stages") == 10 && of(piece, "hard") >= 40 && of(piece, "hard") <= 70;
                set(piece, "verdict", passes ? 1 : 2);
                add("tests", 1);
                add("passed", passes ? 1 : 0);
                return "" + passes;
            default:
                remove(piece);
                return "" + pieces().size();
        }
    }

    private void remove(int piece) {
        state.keySet().removeIf(key -> key.matches("p" + piece + "[a-z]+"));
    }

    private String assemble(int[] four) {
        for (int piece : four) {
            needPiece(piece);
        }
        for (int i = 0; i < 4; i++) {
            need(of(four[i], "kind") == "bnww".charAt(i), new IllegalArgumentException());
        }
        need(four[2] != four[3], new IllegalArgumentException());
        for (int piece : four) {
            needState(of(piece, "in") == 0 && of(piece, "verdict") == 1);
        }
        for (int piece : four) {
            remove(piece);
        }
        add("birds", 1);
        return "" + get("birds");
    }

    private void minute() {
        add("time", 1);
        int level = get("level");
        if (level > 0) {
            if (get("coal") >= level) {
                add("coal", -level);
                add("burnt", level);
                state.put("furnace", Math.min(1200, get("furnace") + 20 * level));
            } else {
                state.put("level", 0);
            }
        }
        add("furnace", -((get("furnace") - 20) / 20));
        for (int piece : pieces()) {
            int temp = of(piece, "temp");
            int gap = get("furnace") - temp;
            int changed = of(piece, "in") == 1 ? temp + Integer.signum(gap) * (Math.abs(gap) / 4)
                    : temp - (temp - 20) / 8;
            set(piece, "temp", changed);
            if (of(piece, "quenched") == 1 && changed >= 200 && changed <= 400 && of(piece, "hard") > 0) {
                set(piece, "hard", of(piece, "hard") - 1);
            }
            if (of(piece, "quenched") == 1 && changed >= 700) {
                set(piece, "quenched", 0);
                set(piece, "verdict", 0);
                set(piece, "hard", 10);
            }
        }
    }

    private String run() {
        String program = text;
        text = "";
        if (!PROGRAM.matcher(program).matches()) {
            errorPosition = firstBad(program);
            throw new IllegalArgumentException();
        }
        String[] commands = program.split(";");
        for (int i = 0; i < commands.length; i++) {
            try {
                command(commands[i].split(" "));
            } catch (RuntimeException refusal) {
                failedCommand = i;
                throw new UnsupportedOperationException();
            }
        }
        return "" + commands.length;
    }

    private static int firstBad(String program) {
        for (int i = 1; i <= program.length(); i++) {
            Matcher matcher = PROGRAM.matcher(program.substring(0, i));
            if (!matcher.matches() && !matcher.hitEnd()) {
                return i - 1;
            }
        }
        return program.length();
    }

    private void command(String[] words) {
        String[] known = {"coal", "bellows", "piece", "tool", "in", "out", "hammer", "quench", "test", "bird",
            "scrap", "wait"};
        String[] names = {"addCoal", "setBellows", "addPiece", "addHammer", "putIn", "takeOut", "hammer", "quench",
            "test", "assemble", "scrap", "advance"};
        int[] a = new int[words.length - 1];
        for (int i = 0; i < a.length; i++) {
            String word = words[i + 1];
            a[i] = words[0].equals("piece") ? word.charAt(0) : Integer.parseInt(word);
        }
        change(names[List.of(known).indexOf(words[0])], a);
    }

    private String query(String name, int... a) {
        switch (name) {
            case "coalMinutes":
                need(get("level") > 0, new ArithmeticException());
                return "" + get("coal") / get("level");
            case "furnaceAfter":
                range(a[0], 0, 200);
                return ahead(a[0], minutes -> minutes == a[0] ? "" + get("furnace") : null);
            case "pieceAt":
                need(a[0] >= 0 && a[0] < pieces().size(), new IndexOutOfBoundsException());
                return "" + pieces().get(a[0]);
            case "pieceAtRank":
                need(a[0] >= 0 && a[0] < pieces().size(), new IndexOutOfBoundsException());
                return "" + ranking().get(a[0]);
            case "exists":
                return "" + pieces().contains(a[0]);
            case "stroke":
                needPiece(a[0]);
                needHammer(a[1]);
                int over = Math.max(0, of(a[0], "temp") - 500);
                return "" + Math.min(10 - of(a[0], "stages"), 1 + get("w" + a[1]) * over / 1000);
            case "minutesToCool", "minutesToCoolAlone":
                needPiece(a[0]);
                range(a[1], 20, 1200);
                String found = ahead(200, minutes -> of(a[0], "temp") <= a[1] ? "" + minutes : null);
                needState(found != null);
                return found;
            case "weight", "wear":
                needHammer(a[0]);
                return "" + get((name.equals("wear") ? "wear" : "w") + a[0]);
            case "heaviestHammer":
                return "" + heaviest();
            case "outputAt":
                need(a[0] >= 0 && a[0] < line.length(), new IndexOutOfBoundsException());
                return "" + line.charAt(a[0]);
            case "writePiece":
                needPiece(a[0]);
                line = written(a[0]);
                return "" + line.length();
            case "writeFurnace":
                line = get("furnace") + "@" + get("level") + "#" + get("coal");
                pieces().stream().filter(p -> of(p, "in") == 1).forEach(p -> line += " " + p);
                return "" + line.length();
            case "errorPosition":
                need(errorPosition >= 0, new NoSuchElementException());
                return "" + errorPosition;
            case "failedCommand":
                need(failedCommand >= 0, new NoSuchElementException());
                return "" + failedCommand;
            default:
                return a.length == 0 ? total(name) : pieceQuery(name, a[0]);
        }
    }

    private String total(String name) {
        switch (name) {
            case "isConsistent":
                return "true";
            case "piecesInFurnace":
                return "" + inside();
            case "pieceCount":
                return "" + pieces().size();
            case "meanHardness":
                need(!pieces().isEmpty(), new ArithmeticException());
                return "" + pieces().stream().mapToDouble(p -> of(p, "hard")).sum() / pieces().size();
            case "passShare":
                need(get("tests") > 0, new ArithmeticException());
                return "" + (float) get("passed") / get("tests");
            default:
                Map<String, String> keys = Map.of("time", "time", "furnace", "furnace", "bellows", "level", "coal",
                        "coal", "hammerCount", "hammers", "strokeTotal", "strokes", "birdTotal", "birds",
                        "burntTotal", "burnt");
                return "" + get(keys.get(name));
        }
    }

    private String pieceQuery(String name, int piece) {
        needPiece(piece);
        switch (name) {
            case "kind":
                return "" + (char) of(piece, "kind");
            case "temperature":
                return "" + of(piece, "temp");
            case "stages":
                return "" + of(piece, "stages");
            case "hardness":
                return "" + of(piece, "hard");
            case "isInFurnace":
                return "" + (of(piece, "in") == 1);
            case "isQuenched":
                return "" + (of(piece, "quenched") == 1);
            case "hasPassed":
                return "" + (of(piece, "verdict") == 1);
            default:
                throw new AssertionError(name);
        }
    }

    private String written(int piece) {
        return piece + "" + (char) of(piece, "kind") + ":" + of(piece, "temp") + "/" + of(piece, "stages") + "/"
                + of(piece, "hard") + (of(piece, "in") == 1 ? "*" : "") + (of(piece, "quenched") == 1 ? "q" : "")
                + List.of("", "+", "-").get(of(piece, "verdict"));
    }

    /** Lets minutes pass until there is an answer; the state is as before afterwards. */
    private String ahead(int minutes, IntFunction<String> answer) {
        Map<String, Integer> before = new HashMap<>(state);
        String found = answer.apply(0);
        for (int i = 1; i <= minutes && found == null; i++) {
            minute();
            found = answer.apply(i);
        }
        state = before;
        return found;
    }

    private List<Integer> ranking() {
        Map<Integer, Integer> order = new TreeMap<>();
        for (int piece : pieces()) {
            order.put(-100000 * of(piece, "hard") - 1000 * of(piece, "stages") + piece, piece);
        }
        return new ArrayList<>(order.values());
    }

    private int heaviest() {
        Map<Integer, Integer> order = new TreeMap<>();
        for (int i = 0; i < get("hammers"); i++) {
            if (get("wear" + i) < 20) {
                order.put(-1000 * get("w" + i) + 10 * get("wear" + i) + i, i);
            }
        }
        need(!order.isEmpty(), new NoSuchElementException());
        return order.values().iterator().next();
    }
}
