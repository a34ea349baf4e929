/** Asks count, place and item at every place of a text, against where its items begin. */
final class Measures {
    private static final int LINES = 2;

    private final Checks checks;
    private final int store;

    Measures(Checks checks, int store) {
        this.checks = checks;
        this.store = store;
    }

    void due(int metric, String text, int... beginnings) {
        dueIn(Texts.holding(store, text), 0, metric, text, beginnings);
    }

    void dueIn(VersionedText x, int version, int metric, String text, int... beginnings) {
        int number = beginnings.length;
        int length = text.length();
        String of = "(" + version + ", " + metric + ") of " + Texts.shown(text) + ": ";
        checks.due("count" + of, x.count(version, metric), number);
        for (int k = 0; k < number; k++) {
            checks.due("place" + of + k, x.place(version, metric, k), beginnings[k]);
        }
        checks.due("place" + of + number, x.place(version, metric, number), length);
        int item = -1;
        for (int place = 0; place <= length; place++) {
            if (item + 1 < number && beginnings[item + 1] == place) {
                item++;
            }
            int want = place == length && metric != LINES ? number : item;
            checks.due("item" + of + place, x.item(version, metric, place), want);
        }
    }
}
