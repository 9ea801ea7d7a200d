import java.util.ArrayList;
import java.util.List;

/**
 * Calls written as text, one after the other: "addCoal 50, 3 * addPiece b, type coal 1;wait 2, try run". A kind
 * may be written as its letter; "type" appends each character of its text; "try" allows a call to be refused;
 * "line" is the whole output line, and "pieceLine 2" writes a piece and is the line.
 */
final class Script {
    private static final int MOST_CALLS = 512;

    private Script() {
    }

    /** A new forge after these calls; all of them must succeed, but those behind a "try". */
    static BirdForge forgeAfter(String script) {
        BirdForge forge = new BirdForge();
        int calls = 0;
        for (String step : steps(script)) {
            calls += play(forge, step, script);
        }
        if (calls > MOST_CALLS) {
            throw new AssertionError("too many calls: " + script);
        }
        return forge;
    }

    static List<String> steps(String script) {
        List<String> steps = new ArrayList<>();
        for (String part : script.split(", ")) {
            String[] times = part.split(" \\* ", 2);
            for (int i = times.length == 1 ? 1 : Integer.parseInt(times[0]); i > 0 && !part.isEmpty(); i--) {
                steps.add(times[times.length - 1]);
            }
        }
        return steps;
    }

    /** Joins the parts that are not empty. */
    static String join(String... parts) {
        List<String> full = new ArrayList<>();
        for (String part : parts) {
            if (!part.isEmpty()) {
                full.add(part);
            }
        }
        return String.join(", ", full);
    }

    private static int play(BirdForge forge, String step, String script) {
        if (step.startsWith("try ")) {
            outcome(forge, step.substring(4));
            return 1;
        }
        String outcome = outcome(forge, step);
        if (outcome.endsWith("Exception")) {
            throw new AssertionError(step + " answered " + outcome + " in: " + script);
        }
        return step.startsWith("type ") ? step.length() - 5 : 1;
    }

    /** The answer of one call as text, or the plain name of the exception's class. */
    static String outcome(BirdForge forge, String call) {
        if (call.startsWith("type ")) {
            return Check.outcome(() -> typed(forge, call.substring(5)));
        }
        if (call.equals("line")) {
            return line(forge);
        }
        if (call.startsWith("pieceLine ")) {
            return Check.pieceLine(forge, Integer.parseInt(call.substring(10)));
        }
        return plainOutcome(forge, call);
    }

    private static int typed(BirdForge forge, String text) {
        int length = 0;
        for (char character : text.toCharArray()) {
            length = forge.append(character);
        }
        return length;
    }

    private static String line(BirdForge forge) {
        StringBuilder text = new StringBuilder();
        for (int i = 0; !plainOutcome(forge, "outputAt " + i).endsWith("Exception"); i++) {
            text.append(forge.outputAt(i));
        }
        return text.toString();
    }

    private static String plainOutcome(BirdForge forge, String call) {
        String[] words = call.split(" ");
        int[] arguments = new int[words.length - 1];
        for (int i = 0; i < arguments.length; i++) {
            String word = words[i + 1];
            boolean isLetter = word.length() == 1 && !Character.isDigit(word.charAt(0));
            arguments[i] = isLetter ? word.charAt(0) : Integer.parseInt(word);
        }
        return Check.outcome(() -> Calls.call(forge, words[0], arguments));
    }
}
