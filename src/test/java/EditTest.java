/** Promises 1 to 6 and 11: a new object, the clip, the edits and the guard. */
public final class EditTest {
    private static final String FULL_CLIP = "abcdefghijklmnopqrstuvwx";
    /** One point of two units, a picture. */
    private static final String PICTURE = "\uD83D\uDE00";

    private static final Checks CHECKS = new Checks("EditTest");

    public static void main(String[] args) {
        for (int store : Checks.STORES) {
            promise1NewObject(store);
            promise2Type(store);
            promise3Scrap(store);
            promise4Insert(store);
            promise4InsertRefused(store);
            promise5Remove(store);
            promise5RemoveRefused(store);
            promise6Replace(store);
            promise6ReplaceRefused(store);
            promise11GuardOfPoints(store);
            promise11GuardOfClusters(store);
            promise11GuardChanges(store);
        }
        CHECKS.close();
    }

    private static void promise1NewObject(int store) {
        VersionedText x = new VersionedText(store);
        CHECKS.due("new: count(0, 0)", x.count(0, 0), 0);
        CHECKS.due("new: count(0, 2)", x.count(0, 2), 1);
        CHECKS.due("new: unit(0, 0)", x.unit(0, 0), -1);
        CHECKS.due("new: insert(0) of the empty clip", x.insert(0), false);
        CHECKS.due("new: find(0, 0) with the empty clip", x.find(0, 0), -1);
        CHECKS.due("new: end()", x.end(), -1);
        CHECKS.due("new: undo()", x.undo(), false);
        CHECKS.due("new: redo()", x.redo(), false);
        CHECKS.due("new: steps(0)", x.steps(0), 0);
        CHECKS.due("new: steps(1)", x.steps(1), 0);
        for (int version = 1; version <= 4; version++) {
            CHECKS.due("new: count of snapshot " + version, x.count(version, 0), -1);
        }
        VersionedText other = Checks.holding(store, "abc");
        CHECKS.due("two objects share nothing", Checks.read(x, 0), "");
        CHECKS.due("the other one", Checks.read(other, 0), "abc");
    }

    private static void promise2Type(int store) {
        VersionedText x = new VersionedText(store);
        for (int i = 0; i < 24; i++) {
            CHECKS.due("type() with " + i, x.type(FULL_CLIP.charAt(i)), true);
        }
        CHECKS.due("type() with 24", x.type('!'), false);
        CHECKS.due("insert(0)", x.insert(0), true);
        CHECKS.due("the clip in its order", Checks.read(x, 0), FULL_CLIP);
        Checks.clip(x, "\u0000\uFFFF\uD83D");
        CHECKS.due("replace(0, 24)", x.replace(0, 24), true);
        CHECKS.due("any char is a unit", Checks.read(x, 0), "\u0000\uFFFF\uD83D");
        CHECKS.due("type() goes on behind an edit", x.type('z'), true);
        CHECKS.due("insert(3)", x.insert(3), true);
        CHECKS.due("the clip stayed", Checks.read(x, 0),
                "\u0000\uFFFF\uD83D\u0000\uFFFF\uD83Dz");
    }

    private static void promise3Scrap(int store) {
        VersionedText x = Checks.holding(store, "ab");
        Checks.clip(x, FULL_CLIP);
        x.scrap();
        CHECKS.due("insert(0) behind scrap()", x.insert(0), false);
        CHECKS.due("replace(0, 1) behind scrap()", x.replace(0, 1), false);
        CHECKS.due("the text behind scrap()", Checks.read(x, 0), "ab");
        x.scrap();
        CHECKS.due("type() behind scrap()", x.type('x'), true);
        CHECKS.due("insert(1) behind scrap()", x.insert(1), true);
        CHECKS.due("only what came behind scrap()", Checks.read(x, 0), "axb");
    }

    private static void promise4Insert(int store) {
        VersionedText x = new VersionedText(store);
        CHECKS.due("insert in the empty text", Checks.insert(x, 0, "mn"), true);
        CHECKS.due("insert at the beginning", Checks.insert(x, 0, "abc"), true);
        CHECKS.due("insert at the end", Checks.insert(x, 5, "yz"), true);
        CHECKS.due("insert between", Checks.insert(x, 4, "--"), true);
        CHECKS.due("the text", Checks.read(x, 0), "abcm--nyz");
        CHECKS.due("insert it again", x.insert(1), true);
        CHECKS.due("the text", Checks.read(x, 0), "a--bcm--nyz");
    }

    private static void promise4InsertRefused(int store) {
        VersionedText x = Checks.holding(store, "s".repeat(136));
        CHECKS.due("insert up to 160", Checks.insert(x, 7, FULL_CLIP), true);
        CHECKS.due("the length", x.count(0, 0), 160);
        CHECKS.due("insert past 160", Checks.insert(x, 160, "x"), false);
        CHECKS.due("remove(159, 160)", x.remove(159, 160), true);
        CHECKS.due("insert two past 160", Checks.insert(x, 0, "xy"), false);
        CHECKS.due("insert the 160th", Checks.insert(x, 159, "x"), true);
        CHECKS.due("the last unit", x.unit(0, 159), 'x');
        VersionedText y = Checks.holding(store, "abc");
        int before = y.steps(0);
        Checks.clip(y, "x");
        for (int at : new int[] {-1, 4, 160, 161, Integer.MIN_VALUE, Integer.MAX_VALUE}) {
            CHECKS.due("insert(" + at + ") in three units", y.insert(at), false);
        }
        y.scrap();
        CHECKS.due("insert the empty clip", y.insert(1), false);
        CHECKS.due("the refused change nothing", Checks.read(y, 0), "abc");
        CHECKS.due("the refused are no steps", y.steps(0), before);
    }

    private static void promise5Remove(int store) {
        VersionedText x = Checks.holding(store, "abcdefgh");
        CHECKS.due("remove(0, 1)", x.remove(0, 1), true);
        CHECKS.due("behind remove(0, 1)", Checks.read(x, 0), "bcdefgh");
        CHECKS.due("remove(5, 7)", x.remove(5, 7), true);
        CHECKS.due("behind remove(5, 7)", Checks.read(x, 0), "bcdef");
        CHECKS.due("remove(1, 3)", x.remove(1, 3), true);
        CHECKS.due("behind remove(1, 3)", Checks.read(x, 0), "bef");
        CHECKS.due("remove(0, 3)", x.remove(0, 3), true);
        CHECKS.due("behind remove(0, 3)", Checks.read(x, 0), "");
        CHECKS.due("each is a step", x.steps(0), 5);
        CHECKS.due("remove(0, 0) of the empty text", x.remove(0, 0), false);
        CHECKS.due("remove(0, 1) of the empty text", x.remove(0, 1), false);
    }

    private static void promise5RemoveRefused(int store) {
        VersionedText x = Checks.holding(store, "abcd");
        int[][] ranges = {{0, 0}, {4, 4}, {2, 1}, {-1, 2}, {0, 5}, {4, 5}, {5, 6}, {5, 4},
            {Integer.MIN_VALUE, Integer.MAX_VALUE}, {0, Integer.MAX_VALUE},
            {Integer.MIN_VALUE, 4}, {Integer.MAX_VALUE, Integer.MIN_VALUE}};
        for (int[] range : ranges) {
            CHECKS.due("remove(" + range[0] + ", " + range[1] + ") of four units",
                    x.remove(range[0], range[1]), false);
        }
        CHECKS.due("the refused change nothing", Checks.read(x, 0), "abcd");
        CHECKS.due("the refused are no steps", x.steps(0), 1);
    }

    private static void promise6Replace(int store) {
        VersionedText x = Checks.holding(store, "abcdef");
        CHECKS.due("replace by more", Checks.replace(x, 1, 2, "XYZ"), true);
        CHECKS.due("the text", Checks.read(x, 0), "aXYZcdef");
        CHECKS.due("replace by less", Checks.replace(x, 4, 8, "-"), true);
        CHECKS.due("the text", Checks.read(x, 0), "aXYZ-");
        CHECKS.due("replace nothing", Checks.replace(x, 0, 0, "12"), true);
        CHECKS.due("the text", Checks.read(x, 0), "12aXYZ-");
        CHECKS.due("replace at the end", Checks.replace(x, 7, 7, "!"), true);
        CHECKS.due("replace all by the same", Checks.replace(x, 0, 8, "12aXYZ-!"), true);
        CHECKS.due("the text", Checks.read(x, 0), "12aXYZ-!");
        CHECKS.due("each is a step, if it changes nothing too", x.steps(0), 6);
        CHECKS.due("the clip stayed", x.replace(0, 0), true);
        CHECKS.due("the text", Checks.read(x, 0), "12aXYZ-!12aXYZ-!");
        VersionedText empty = new VersionedText(store);
        CHECKS.due("replace in the empty text", Checks.replace(empty, 0, 0, "k"), true);
        CHECKS.due("the text", Checks.read(empty, 0), "k");
    }

    private static void promise6ReplaceRefused(int store) {
        VersionedText x = Checks.holding(store, "abcd");
        Checks.clip(x, "z");
        int[][] ranges = {{2, 1}, {-1, 2}, {-1, -1}, {0, 5}, {5, 5}, {5, 4},
            {Integer.MIN_VALUE, Integer.MAX_VALUE}, {Integer.MAX_VALUE, Integer.MIN_VALUE}};
        for (int[] range : ranges) {
            CHECKS.due("replace(" + range[0] + ", " + range[1] + ") in four units",
                    x.replace(range[0], range[1]), false);
        }
        x.scrap();
        CHECKS.due("replace by the empty clip", x.replace(1, 2), false);
        CHECKS.due("the refused change nothing", Checks.read(x, 0), "abcd");
        CHECKS.due("the refused are no steps", x.steps(0), 1);
        VersionedText full = Checks.holding(store, "s".repeat(160));
        CHECKS.due("replace two by two in a full text", Checks.replace(full, 9, 11, "xy"), true);
        CHECKS.due("replace two by three in a full text",
                Checks.replace(full, 9, 11, "xyz"), false);
        CHECKS.due("replace none by one in a full text", Checks.replace(full, 9, 9, "x"), false);
        CHECKS.due("the length", full.count(0, 0), 160);
    }

    private static void promise11GuardOfPoints(int store) {
        VersionedText x = Checks.holding(store, "a" + PICTURE + "e\u0301\r\n");
        CHECKS.due("guard(1)", x.guard(1), true);
        CHECKS.due("insert in a point", Checks.insert(x, 2, "-"), false);
        CHECKS.due("remove from in a point", x.remove(2, 3), false);
        CHECKS.due("remove to in a point", x.remove(1, 2), false);
        CHECKS.due("replace from in a point", x.replace(2, 4), false);
        CHECKS.due("replace to in a point", x.replace(0, 2), false);
        CHECKS.due("replace none in a point", x.replace(2, 2), false);
        CHECKS.due("the text", Checks.read(x, 0), "a" + PICTURE + "e\u0301\r\n");
        CHECKS.due("insert between 13 and 10", x.insert(6), true);
        CHECKS.due("insert between a letter and its mark", x.insert(4), true);
        CHECKS.due("insert behind the point", x.insert(3), true);
        CHECKS.due("insert before the point", x.insert(1), true);
        CHECKS.due("the text", Checks.read(x, 0), "a-" + PICTURE + "-e-\u0301\r-\n");
        CHECKS.due("remove over the whole point", x.remove(1, 5), true);
        CHECKS.due("the text", Checks.read(x, 0), "ae-\u0301\r-\n");
    }

    private static void promise11GuardOfClusters(int store) {
        VersionedText x = Checks.holding(store, "e\u0301" + PICTURE + "\r\n");
        CHECKS.due("guard(3)", x.guard(3), true);
        Checks.clip(x, "--");
        for (int place : new int[] {1, 3, 5}) {
            CHECKS.due("insert(" + place + ") in a cluster", x.insert(place), false);
            CHECKS.due("remove from " + place, x.remove(place, 6), false);
            CHECKS.due("remove to " + place, x.remove(0, place), false);
            CHECKS.due("replace from " + place, x.replace(place, 6), false);
            CHECKS.due("replace to " + place, x.replace(0, place), false);
        }
        CHECKS.due("the refused are no steps", x.steps(0), 1);
        CHECKS.due("insert at the end", x.insert(6), true);
        CHECKS.due("insert between clusters", x.insert(4), true);
        CHECKS.due("insert at the beginning", x.insert(0), true);
        CHECKS.due("the text", Checks.read(x, 0), "--e\u0301" + PICTURE + "--\r\n--");
        CHECKS.due("remove whole clusters", x.remove(2, 6), true);
        CHECKS.due("a mark may come in behind a cluster", Checks.insert(x, 2, "\u0301"), true);
        CHECKS.due("and is inside then", x.insert(2), false);
        CHECKS.due("the guard does not stop undo()", x.undo(), true);
    }

    private static void promise11GuardChanges(int store) {
        VersionedText x = Checks.holding(store, PICTURE);
        for (int metric : new int[] {2, -1, 4, Integer.MIN_VALUE, Integer.MAX_VALUE}) {
            CHECKS.due("guard(" + metric + ")", x.guard(metric), false);
        }
        CHECKS.due("no guard at first", x.remove(1, 2), true);
        CHECKS.due("undo()", x.undo(), true);
        CHECKS.due("guard(1)", x.guard(1), true);
        CHECKS.due("guard(2) is refused", x.guard(2), false);
        CHECKS.due("and the guard stays", x.remove(1, 2), false);
        CHECKS.due("guard(0)", x.guard(0), true);
        CHECKS.due("remove in a point without a guard", x.remove(1, 2), true);
        CHECKS.due("the text", Checks.read(x, 0), "\uD83D");
    }
}
