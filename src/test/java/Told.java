import java.util.ArrayList;
import java.util.List;
import java.util.function.Predicate;
import java.util.function.Supplier;

/**
 * All that later calls could tell of an object. Most of it shows only by calls that change the
 * object, so each line is asked of an object that was newly made the same way.
 */
final class Told {
    private static final int MORE_THAN_STEPS = 9;
    private static final int MORE_THAN_CLIP = 25;
    private static final int TEXT_LIMIT = 160;

    private Told() {
    }

    static List<String> of(Supplier<VersionedText> made) {
        List<String> lines = new ArrayList<>();
        VersionedText x = made.get();
        lines.add("end() " + x.end() + ", steps " + x.steps(0) + " and " + x.steps(1));
        for (int version = 0; version <= 4; version++) {
            lines.add("version " + version + ": " + version(made.get(), version));
        }
        addWalk(lines, "undo()", made, VersionedText::undo, VersionedText::redo);
        addWalk(lines, "redo()", made, VersionedText::redo, VersionedText::undo);
        lines.add("the clip: " + clip(made.get()));
        int length = x.count(0, 0);
        for (int place = 0; place <= length; place++) {
            lines.add("place " + place + ": " + typed(made, length, place) + ", "
                    + made.get().remove(place, length));
        }
        return lines;
    }

    private static String version(VersionedText x, int version) {
        return x.count(version, 0) < 0 ? "none" : Texts.shown(Texts.read(x, version));
    }

    private static void addWalk(List<String> lines, String name, Supplier<VersionedText> made,
            Predicate<VersionedText> way, Predicate<VersionedText> back) {
        boolean gone = true;
        for (int times = 1; gone && times <= MORE_THAN_STEPS; times++) {
            VersionedText there = made.get();
            gone = walk(there, way, times);
            lines.add(name + " " + times + " times: " + gone + " " + version(there, 0));
            VersionedText home = made.get();
            walk(home, way, times);
            lines.add("and back: " + walk(home, back, times) + " " + version(home, 0));
        }
    }

    private static boolean walk(VersionedText x, Predicate<VersionedText> way, int times) {
        boolean gone = false;
        for (int i = 0; i < times; i++) {
            gone = way.test(x);
        }
        return gone;
    }

    private static String clip(VersionedText x) {
        x.guard(0);
        x.remove(0, x.count(0, 0));
        String units = x.insert(0) ? Texts.read(x, 0) : "";
        int room = 0;
        while (room < MORE_THAN_CLIP && x.type('q')) {
            room++;
        }
        return Texts.shown(units) + ", room for " + room;
    }

    /** Whether the guard lets an insertion be here, and whether it goes on with a step. */
    private static String typed(Supplier<VersionedText> made, int length, int place) {
        if (length == TEXT_LIMIT) {
            return "full";
        }
        VersionedText x = made.get();
        boolean put = Texts.insert(x, place, "q");
        int steps = x.steps(0);
        x.undo();
        return put + " " + steps + " " + x.count(0, 0);
    }
}
