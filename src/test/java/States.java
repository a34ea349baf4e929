import java.util.LinkedHashMap;
import java.util.Map;
import java.util.function.Supplier;

/** Ways to make objects in the states that a call can meet, each by its name. */
final class States {
    private States() {
    }

    static Map<String, Supplier<VersionedText>> all(int store) {
        Map<String, Supplier<VersionedText>> all = new LinkedHashMap<>();
        all.put("new", () -> new VersionedText(store));
        all.put("while typing", () -> typing(store));
        all.put("some steps undone", () -> someUndone(store));
        all.put("more than eight steps", () -> manySteps(store));
        all.put("all steps undone", () -> allUndone(store));
        all.put("text and clip full", () -> full(store));
        return all;
    }

    /** Snapshots 1 and 3, a match found, the clusters guarded, the latest step typed at the end. */
    static VersionedText typing(int store) {
        VersionedText x = Texts.holding(store, "a" + Texts.PICTURE + "e" + Texts.MARK + "\r\n");
        for (int i = 0; i < 3; i++) {
            x.snapshot();
        }
        x.release(2);
        Texts.find(x, 0, 1, "..");
        x.guard(3);
        Texts.insert(x, 7, "x");
        Texts.insert(x, 8, "y");
        return x;
    }

    /** Three steps to undo and two to redo, the points guarded, one snapshot. */
    static VersionedText someUndone(int store) {
        VersionedText x = Texts.holding(store, Texts.PICTURE + "bcd");
        x.snapshot();
        x.remove(3, 4);
        Texts.insert(x, 2, "ef");
        Texts.replace(x, 2, 4, "xyz");
        Texts.insert(x, 0, "-");
        x.undo();
        x.undo();
        x.guard(1);
        return x;
    }

    /** Eleven steps, the latest one typed, of which eight can be undone, and all four snapshots. */
    static VersionedText manySteps(int store) {
        VersionedText x = new VersionedText(store);
        for (int i = 0; i < 10; i++) {
            Texts.insert(x, 2 * i, (char) ('a' + i) + ".");
        }
        for (int i = 0; i < 4; i++) {
            x.snapshot();
        }
        Texts.insert(x, 5, "x");
        Texts.insert(x, 6, "y");
        return x;
    }

    static VersionedText allUndone(int store) {
        VersionedText x = manySteps(store);
        for (int i = 0; i < 8; i++) {
            x.undo();
        }
        return x;
    }

    /** Points of two units alone, and guarded. */
    static VersionedText full(int store) {
        VersionedText x = new VersionedText(store);
        Texts.insert(x, 0, Texts.PICTURE.repeat(8));
        Texts.clip(x, Texts.PICTURE.repeat(12));
        for (int i = 0; i < 6; i++) {
            x.insert(0);
        }
        x.guard(1);
        return x;
    }
}
