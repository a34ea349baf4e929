/** Promises 15 to 17: count, place and item, in units, points, lines and clusters. */
public final class MeasureTest {
    private static final String MARK = "\u0301";
    private static final String JOINER = "\u200D";
    private static final String FLAG = "\uD83C\uDDE6";

    private static final Checks CHECKS = new Checks("MeasureTest");

    public static void main(String[] args) {
        for (int store : Checks.STORES) {
            emptyText(store);
            units(store);
            points(store);
            lines(store);
            clusters(store);
            clustersOfMarks(store);
            clustersOfPictures(store);
            clustersOfFlags(store);
            codesAtTheBounds(store);
            fullTexts(store);
            snapshots(store);
            wrongInputs(store);
        }
        CHECKS.close();
    }

    /** Asks count, place and item of a metric at every place against where its items begin. */
    private static void due(int store, int metric, String text, int... beginnings) {
        VersionedText x = Checks.holding(store, text);
        dueIn(x, 0, metric, text, beginnings);
    }

    private static void dueIn(VersionedText x, int version, int metric, String text,
            int... beginnings) {
        int number = beginnings.length;
        int length = text.length();
        String of = "(" + version + ", " + metric + ") of " + Checks.shown(text) + ": ";
        CHECKS.due("count" + of, x.count(version, metric), number);
        for (int k = 0; k < number; k++) {
            CHECKS.due("place" + of + k, x.place(version, metric, k), beginnings[k]);
        }
        CHECKS.due("place" + of + number, x.place(version, metric, number), length);
        CHECKS.due("place" + of + "past", x.place(version, metric, number + 1), -1);
        CHECKS.due("place" + of + "-1", x.place(version, metric, -1), -1);
        int item = -1;
        for (int place = 0; place <= length; place++) {
            if (item + 1 < number && beginnings[item + 1] == place) {
                item++;
            }
            int want = place == length && metric != 2 ? number : item;
            CHECKS.due("item" + of + place, x.item(version, metric, place), want);
        }
        CHECKS.due("item" + of + "past", x.item(version, metric, length + 1), -1);
        CHECKS.due("item" + of + "-1", x.item(version, metric, -1), -1);
    }

    private static void emptyText(int store) {
        due(store, 0, "");
        due(store, 1, "");
        due(store, 2, "", 0);
        due(store, 3, "");
    }

    private static void units(int store) {
        due(store, 0, "a", 0);
        due(store, 0, "a\r\n" + FLAG + MARK, 0, 1, 2, 3, 4, 5);
    }

    private static void points(int store) {
        due(store, 1, "a" + FLAG + "b", 0, 1, 3);
        due(store, 1, FLAG + FLAG, 0, 2);
        due(store, 1, "\uD800\uDC00\uDBFF\uDFFF", 0, 2);
        due(store, 1, "\uD800\uD800\uDC00\uDC00", 0, 1, 3);
        due(store, 1, "\uDC00\uD800", 0, 1);
        due(store, 1, "\uD7FF\uDC00", 0, 1);
        due(store, 1, "\uDC00\uDC00", 0, 1);
        due(store, 1, "\uD800\uE000", 0, 1);
        due(store, 1, "\uD800\uDBFF", 0, 1);
        due(store, 1, "\r\ne" + MARK, 0, 1, 2, 3);
    }

    private static void lines(int store) {
        due(store, 2, "abc", 0);
        due(store, 2, "a\nb", 0, 2);
        due(store, 2, "a\rb", 0, 2);
        due(store, 2, "a\r\nb", 0, 3);
        due(store, 2, "a\n\rb", 0, 2, 3);
        due(store, 2, "\n", 0, 1);
        due(store, 2, "\r", 0, 1);
        due(store, 2, "\r\n", 0, 2);
        due(store, 2, "\r\r\n\n", 0, 1, 3, 4);
        due(store, 2, "\r\n\r\n", 0, 2, 4);
        due(store, 2, "\u000B\u000C\u0085\u2028", 0);
        due(store, 2, "ab\n\ncd\n", 0, 3, 4, 7);
    }

    private static void clusters(int store) {
        due(store, 3, "abc", 0, 1, 2);
        due(store, 3, "\r\n", 0);
        due(store, 3, "\n\r", 0, 1);
        due(store, 3, "\r\r\n\n", 0, 1, 3);
        due(store, 3, FLAG + "a", 0, 2);
        due(store, 3, "\uD83C\uD83C", 0, 1);
    }

    private static void clustersOfMarks(int store) {
        due(store, 3, "e" + MARK, 0);
        due(store, 3, "e" + MARK + MARK + JOINER + MARK + "f", 0, 5);
        due(store, 3, "e" + JOINER + "f", 0, 2);
        due(store, 3, MARK, 0);
        due(store, 3, MARK + MARK + "a", 0, 2);
        due(store, 3, JOINER + MARK, 0);
        due(store, 3, "\n" + MARK + MARK, 0, 1);
        due(store, 3, "\r" + JOINER, 0, 1);
        due(store, 3, "\r" + MARK + "\n", 0, 1, 2);
        due(store, 3, "\u0000" + MARK, 0, 1);
        due(store, 3, "\u001F" + MARK, 0, 1);
        due(store, 3, " " + MARK, 0);
        due(store, 3, "\u007F" + JOINER, 0);
        due(store, 3, FLAG + MARK, 0);
        due(store, 3, "\uD83C" + MARK, 0);
        due(store, 3, "a\u0300", 0);
        due(store, 3, "a\u036F", 0);
        due(store, 3, "a\u02FF", 0, 1);
        due(store, 3, "a\u0370", 0, 1);
        due(store, 3, "a\u200C", 0, 1);
        due(store, 3, "a\u200E", 0, 1);
    }

    private static void clustersOfPictures(int store) {
        String picture = "\uD83D\uDE00";
        due(store, 3, picture + picture, 0, 2);
        due(store, 3, picture + JOINER + picture, 0);
        due(store, 3, picture + JOINER + picture + JOINER + picture + "a", 0, 8);
        due(store, 3, picture + MARK + JOINER + picture, 0);
        due(store, 3, picture + MARK + MARK + JOINER + picture, 0);
        due(store, 3, picture + JOINER + MARK + picture, 0, 4);
        due(store, 3, picture + JOINER + JOINER + picture, 0, 4);
        due(store, 3, picture + JOINER + MARK + JOINER + picture, 0, 5);
        due(store, 3, "a" + JOINER + picture, 0, 2);
        due(store, 3, "a" + MARK + JOINER + picture, 0, 3);
        due(store, 3, JOINER + picture, 0, 1);
        due(store, 3, MARK + JOINER + picture, 0, 2);
        due(store, 3, picture + "a" + JOINER + picture, 0, 2, 4);
        due(store, 3, picture + JOINER + "a", 0, 3);
        due(store, 3, picture + JOINER + FLAG, 0, 3);
        due(store, 3, FLAG + JOINER + picture, 0, 3);
        due(store, 3, picture + "\n" + JOINER + picture, 0, 2, 3, 4);
    }

    private static void clustersOfFlags(int store) {
        due(store, 3, FLAG, 0);
        due(store, 3, FLAG + FLAG, 0);
        due(store, 3, FLAG.repeat(3), 0, 4);
        due(store, 3, FLAG.repeat(4), 0, 4);
        due(store, 3, FLAG.repeat(5), 0, 4, 8);
        due(store, 3, FLAG + "a" + FLAG + FLAG, 0, 2, 3);
        due(store, 3, FLAG + MARK + FLAG + FLAG, 0, 3);
        due(store, 3, FLAG + FLAG + MARK + FLAG + FLAG, 0, 5);
        due(store, 3, FLAG + JOINER + FLAG, 0, 3);
        due(store, 3, "ab" + FLAG.repeat(3), 0, 1, 2, 6);
    }

    /** The first and last codes of each kind of point, and those next to them. */
    private static void codesAtTheBounds(int store) {
        for (int code : new int[] {127462, 127487}) {
            due(store, 3, of(code) + of(code), 0);
        }
        for (int code : new int[] {127461, 127488}) {
            due(store, 3, of(code) + of(code), 0, 2);
            due(store, 3, FLAG + of(code), 0, 2);
            due(store, 3, of(code) + FLAG + FLAG, 0, 2);
        }
        for (int code : new int[] {127744, 129791}) {
            due(store, 3, of(code) + JOINER + of(code), 0);
        }
        for (int code : new int[] {127743, 129792}) {
            due(store, 3, of(128512) + JOINER + of(code), 0, 3);
            due(store, 3, of(code) + JOINER + of(128512), 0, 3);
        }
    }

    private static String of(int code) {
        return new String(Character.toChars(code));
    }

    private static void fullTexts(int store) {
        int[] all = new int[161];
        for (int i = 0; i <= 160; i++) {
            all[i] = i;
        }
        due(store, 2, "\n".repeat(160), all);
        due(store, 2, "\r".repeat(160), all);
        VersionedText pairs = Checks.holding(store, "\r\n".repeat(80));
        CHECKS.due("lines of 80 breaks of two units", pairs.count(0, 2), 81);
        CHECKS.due("clusters of them", pairs.count(0, 3), 80);
        CHECKS.due("points of them", pairs.count(0, 1), 160);
        VersionedText flags = Checks.holding(store, FLAG.repeat(80));
        CHECKS.due("clusters of 80 flags", flags.count(0, 3), 40);
        CHECKS.due("points of 80 flags", flags.count(0, 1), 80);
        VersionedText marks = Checks.holding(store, "a" + MARK.repeat(159));
        CHECKS.due("clusters of 159 marks", marks.count(0, 3), 1);
        CHECKS.due("item of the last mark", marks.item(0, 3, 159), 0);
        CHECKS.due("item of the end", marks.item(0, 3, 160), 1);
    }

    private static void snapshots(int store) {
        String kept = "a" + FLAG + FLAG + "\r\nb";
        String text = "a\uD83C" + FLAG + "\r\nb";
        VersionedText x = Checks.holding(store, kept);
        x.snapshot();
        x.remove(2, 3);
        dueIn(x, 1, 0, kept, 0, 1, 2, 3, 4, 5, 6, 7);
        dueIn(x, 1, 1, kept, 0, 1, 3, 5, 6, 7);
        dueIn(x, 1, 2, kept, 0, 7);
        dueIn(x, 1, 3, kept, 0, 1, 5, 7);
        dueIn(x, 0, 1, text, 0, 1, 2, 4, 5, 6);
        dueIn(x, 0, 3, text, 0, 1, 2, 4, 6);
    }

    private static void wrongInputs(int store) {
        VersionedText x = Checks.holding(store, "a\nb");
        x.snapshot();
        int[] far = {Integer.MIN_VALUE, Integer.MAX_VALUE};
        for (int version : new int[] {-1, 2, 3, 4, 5, far[0], far[1]}) {
            for (int metric = 0; metric <= 3; metric++) {
                CHECKS.due("count of version " + version, x.count(version, metric), -1);
                CHECKS.due("place of version " + version, x.place(version, metric, 0), -1);
                CHECKS.due("item of version " + version, x.item(version, metric, 0), -1);
            }
        }
        for (int metric : new int[] {-1, 4, far[0], far[1]}) {
            CHECKS.due("count of metric " + metric, x.count(0, metric), -1);
            CHECKS.due("place of metric " + metric, x.place(0, metric, 0), -1);
            CHECKS.due("item of metric " + metric, x.item(1, metric, 0), -1);
        }
        for (int metric = 0; metric <= 3; metric++) {
            for (int past : far) {
                CHECKS.due("place of item " + past, x.place(0, metric, past), -1);
                CHECKS.due("item of place " + past, x.item(0, metric, past), -1);
            }
        }
    }
}
