/** Long mixed runs of calls, every answer against the model's; the same runs every time. */
public final class ModelTest {
    private static final int RUNS = 4000;
    /** The answers asked for of one object: less than 512, for the calls that answer nothing. */
    private static final int ANSWERS = 440;

    /** Few units, so that breaks, points, clusters and matches come about often. */
    private static final String[] ALPHABETS = {
        "ab.*\n\r",
        "ab.**",
        "a\r\n\u0301\u200D\u001F ",
        "\uD83C\uDDE6\uDDFF\uD83D\uDE00\u200D\u0301a",
    };
    private static final String[] CHUNKS = {
        "\uD83C\uDDE6", "\uD83C\uDDFF", "\uD83C\uDF00", "\uD83D\uDE00", "\u200D", "\u0301", "\r\n",
        "a", "\uD83C\uDDE5", "\uD83E\uDFFF", "\u036F",
    };

    private static final Checks CHECKS = new Checks("ModelTest");

    private static long seed;

    public static void main(String[] args) {
        for (int run = 0; run < RUNS; run++) {
            seed = run;
            run(run);
        }
        CHECKS.close();
    }

    private static void run(int run) {
        VersionedText x = new VersionedText(run % 2);
        Model model = new Model();
        String alphabet = ALPHABETS[run / 2 % ALPHABETS.length];
        boolean editing = run / 8 % 2 == 0;
        int begun = CHECKS.asked();
        int wrong = CHECKS.wrong();
        if (run / 16 % 3 == 0) {
            fill(x, model, "run " + run + ", at first: ", alphabet);
        }
        while (CHECKS.asked() - begun < ANSWERS && CHECKS.wrong() == wrong) {
            String name = "run " + run + ", answer " + (CHECKS.asked() - begun) + ": ";
            if (below(100) < (editing ? 75 : 45)) {
                edit(x, model, name, alphabet);
            } else {
                ask(x, model, name);
            }
        }
    }

    /** Nearly as many units as a text can have, so that its limit comes about. */
    private static void fill(VersionedText x, Model model, String name, String alphabet) {
        for (int i = 0; i < 24; i++) {
            type(x, model, name, alphabet);
        }
        for (int i = 0; i < 6; i++) {
            CHECKS.due(name + "insert(0)", x.insert(0), model.insert(0));
        }
    }

    private static void edit(VersionedText x, Model model, String name, String alphabet) {
        int length = model.count(0, 0);
        int from = near(length);
        int to = below(3) == 0 ? near(length) : from + below(6);
        switch (below(20)) {
            case 0, 1, 2, 3, 4 -> type(x, model, name, alphabet);
            case 5, 6 -> {
                x.scrap();
                model.scrap();
                type(x, model, name, alphabet);
            }
            case 7, 8, 9 -> CHECKS.due(name + "insert(" + from + ")",
                    x.insert(from), model.insert(from));
            case 10, 11 -> typeOn(x, model, name, alphabet, from);
            case 12 -> CHECKS.due(name + "remove(" + from + ", " + to + ")",
                    x.remove(from, to), model.remove(from, to));
            case 13, 14 -> CHECKS.due(name + "replace(" + from + ", " + to + ")",
                    x.replace(from, to), model.replace(from, to));
            case 15 -> CHECKS.due(name + "undo()", x.undo(), model.undo());
            case 16 -> CHECKS.due(name + "redo()", x.redo(), model.redo());
            case 17 -> {
                if (below(3) == 0) {
                    x.seal();
                    model.seal();
                }
            }
            case 18 -> {
                int metric = below(6) - 1;
                CHECKS.due(name + "guard(" + metric + ")", x.guard(metric), model.guard(metric));
            }
            default -> keep(x, model, name);
        }
        CHECKS.due(name + "steps(0)", x.steps(0), model.steps(0));
        CHECKS.due(name + "the length", x.count(0, 0), model.count(0, 0));
    }

    private static void type(VersionedText x, Model model, String name, String alphabet) {
        String units = "" + alphabet.charAt(below(alphabet.length()));
        if (alphabet.indexOf('\uD83C') >= 0 && below(3) != 0) {
            units = CHUNKS[below(CHUNKS.length)];
        }
        for (char unit : units.toCharArray()) {
            CHECKS.due(name + "type(" + (int) unit + ")", x.type(unit), model.type(unit));
        }
    }

    /** A few insertions of one unit, mostly at the place behind the one before. */
    private static void typeOn(VersionedText x, Model model, String name, String alphabet,
            int from) {
        x.scrap();
        model.scrap();
        type(x, model, name, alphabet);
        int at = from;
        for (int i = below(5); i > 0; i--) {
            CHECKS.due(name + "insert(" + at + ")", x.insert(at), model.insert(at));
            CHECKS.due(name + "steps(0)", x.steps(0), model.steps(0));
            at += below(5) == 0 ? below(3) : 1;
        }
    }

    private static void keep(VersionedText x, Model model, String name) {
        int version = below(7) - 1;
        if (below(2) == 0) {
            CHECKS.due(name + "snapshot()", x.snapshot(), model.snapshot());
        } else {
            CHECKS.due(name + "release(" + version + ")",
                    x.release(version), model.release(version));
        }
    }

    private static void ask(VersionedText x, Model model, String name) {
        int version = below(2) == 0 ? 0 : below(7) - 1;
        int other = below(7) - 1;
        int metric = below(10) == 0 ? below(8) - 2 : below(4);
        int place = near(Math.max(0, model.count(version, 0)));
        String of = "(" + version + ", " + metric + ", " + place + ")";
        switch (below(9)) {
            case 0 -> CHECKS.due(name + "unit" + of,
                    x.unit(version, place), model.unit(version, place));
            case 1 -> CHECKS.due(name + "count" + of,
                    x.count(version, metric), model.count(version, metric));
            case 2 -> CHECKS.due(name + "place" + of,
                    x.place(version, metric, place), model.place(version, metric, place));
            case 3, 4 -> CHECKS.due(name + "item" + of,
                    x.item(version, metric, place), model.item(version, metric, place));
            case 5 -> CHECKS.due(name + "same(" + version + ", " + other + ")",
                    x.same(version, other), model.same(version, other));
            case 6, 7 -> CHECKS.due(name + "find" + of,
                    x.find(version, place), model.find(version, place));
            default -> CHECKS.due(name + "steps(" + other + ")",
                    x.steps(other), model.steps(other));
        }
        CHECKS.due(name + "end()", x.end(), model.end());
    }

    /** A place of a text mostly, its ends often, and now and then one just outside. */
    private static int near(int length) {
        switch (below(12)) {
            case 0:
                return below(3) - 1;
            case 1:
                return length + below(3) - 1;
            default:
                return below(length + 1);
        }
    }

    /** The test's own row of numbers, so that each run can be had again. */
    private static int below(int bound) {
        seed = seed * 6364136223846793005L + 1442695040888963407L;
        return (int) ((seed >>> 33) % bound);
    }
}
