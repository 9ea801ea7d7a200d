import java.util.ArrayList;
import java.util.HashMap;
import java.util.List;
import java.util.Map;
import java.util.function.Supplier;

/**
 * Rows of the tests of boundary cases. A refused call is looked at from all sides: a forge with it and a forge
 * without it must not be told apart by any later call.
 */
final class Bounds {
    private static final int MOST_UNDONE = 8;
    private static final Map<String, List<String>> SEEN = new HashMap<>();

    private Bounds() {
    }

    /** After the script the calls answer what stands behind their "="; "*" is any answer, but no exception. */
    static void holds(String sentence, String script, String calls) {
        BirdForge forge = Script.forgeAfter(script);
        for (String row : Script.steps(calls)) {
            String[] halves = row.split(" = ", 2);
            String got = Script.outcome(forge, halves[0]);
            String what = sentence + ": " + halves[0] + " after <" + script + "> in <" + calls + ">";
            if (halves[1].equals("*")) {
                Check.same(what, false, got.endsWith("Exception"));
            } else {
                Check.same(what, halves[1], got);
            }
        }
    }

    /** After the script each of the calls alone is refused with this exception, and nothing else changes. */
    static void refused(String sentence, String script, Class<? extends RuntimeException> due, String... calls) {
        for (String call : calls) {
            refusedIn(sentence, script, due, call);
            refusedIn(sentence + ", amid all else", amid(script), due, call);
        }
    }

    /** The same, but nothing more is put around the script. */
    static void refusedBare(String sentence, String script, Class<? extends RuntimeException> due, String... calls) {
        for (String call : calls) {
            refusedIn(sentence, script, due, call);
        }
    }

    private static void refusedIn(String sentence, String script, Class<? extends RuntimeException> due,
            String call) {
        String what = sentence + ": " + call + " after <" + script + ">";
        Check.same(what, due.getSimpleName(), Script.outcome(Script.forgeAfter(script), call));
        List<String> without = SEEN.computeIfAbsent(script, key -> seen(() -> Script.forgeAfter(key)));
        Check.same(what + " changes nothing", without, seen(() -> Script.forgeAfter(script + ", try " + call)));
    }

    /** The script with a state saved half-way, and behind it errors, a line and a text that must all stay. */
    private static String amid(String script) {
        List<String> steps = Script.steps(script);
        steps.add(steps.size() / 2, "save");
        steps.addAll(List.of("type coal 1;x", "try run", "type bellows 0;bellows 0;wait 0", "try run",
                "writeFurnace", "type bellows 4;wait 2"));
        return String.join(", ", steps);
    }

    /** All that later calls can tell; each entry looks at a forge of its own, so that none hides another. */
    static List<String> seen(Supplier<BirdForge> maker) {
        List<String> seen = new ArrayList<>();
        seen.add(now(maker.get()));
        seen.add(buffer(maker.get()));
        for (int times = 1; times <= MOST_UNDONE + 1; times++) {
            BirdForge forge = maker.get();
            for (int i = 1; i < times; i++) {
                Check.outcome(forge::undo);
            }
            seen.add("undo " + times + ": " + Check.outcome(forge::undo) + " " + state(forge));
        }
        seen.add(saved(maker.get()));
        seen.add(next(maker.get()));
        return seen;
    }

    private static String now(BirdForge forge) {
        StringBuilder text = new StringBuilder("line: " + Script.outcome(forge, "line"));
        for (String query : new String[] {"errorPosition", "failedCommand", "isConsistent", "heaviestHammer"}) {
            text.append(' ').append(Script.outcome(forge, query));
        }
        return text + " " + state(forge);
    }

    private static String state(BirdForge forge) {
        StringBuilder text = new StringBuilder(Check.everything(forge));
        for (int i = 0; i < forge.pieceCount(); i++) {
            text.append(' ').append(Check.pieceLine(forge, forge.pieceAt(i)));
        }
        return text.toString();
    }

    private static String buffer(BirdForge forge) {
        return "run: " + Check.outcome(forge::run) + " " + now(forge) + " append: " + forge.append('c');
    }

    private static String saved(BirdForge forge) {
        return "restore: " + Script.outcome(forge, "restore") + " " + state(forge) + " undo: "
                + Check.outcome(forge::undo);
    }

    private static String next(BirdForge forge) {
        String typed = "append: " + Script.outcome(forge, "append x");
        if (forge.pieceCount() == 8) {
            forge.scrap(forge.pieceAt(3));
        }
        return typed + " next: " + forge.addPiece('n') + " " + Script.outcome(forge, "addHammer 5") + " undo: "
                + forge.undo() + " consistent: " + forge.isConsistent();
    }
}
