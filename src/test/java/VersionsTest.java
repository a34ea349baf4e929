/** Promises 12 to 14 and 18: snapshot, release, unit and same. */
public final class VersionsTest {
    private static final int[] NO_VERSIONS = {-1, 5, 6, Integer.MIN_VALUE, Integer.MAX_VALUE};

    private static final Checks CHECKS = new Checks("VersionsTest");

    public static void main(String[] args) {
        for (int store : Checks.STORES) {
            promise12Snapshot(store);
            promise12SnapshotKeeps(store);
            promise13Release(store);
            promise14Unit(store);
            promise18Same(store);
        }
        CHECKS.close();
    }

    private static void promise12Snapshot(int store) {
        VersionedText x = new VersionedText(store);
        for (int version = 1; version <= 4; version++) {
            CHECKS.due("snapshot()", x.snapshot(), version);
            Checks.insert(x, 0, "" + version);
        }
        CHECKS.due("snapshot() with all four", x.snapshot(), -1);
        CHECKS.due("the first", Checks.read(x, 1), "");
        CHECKS.due("the second", Checks.read(x, 2), "1");
        CHECKS.due("the third", Checks.read(x, 3), "21");
        CHECKS.due("the fourth", Checks.read(x, 4), "321");
        x.release(3);
        x.release(2);
        CHECKS.due("snapshot() takes the least", x.snapshot(), 2);
        CHECKS.due("snapshot() takes the next", x.snapshot(), 3);
        CHECKS.due("snapshot() with all four", x.snapshot(), -1);
        CHECKS.due("the second", Checks.read(x, 2), "4321");
        CHECKS.due("the fourth stayed", Checks.read(x, 4), "321");
        CHECKS.due("no snapshot is a step", x.steps(0), 4);
    }

    private static void promise12SnapshotKeeps(int store) {
        VersionedText x = Checks.holding(store, "abcdef");
        x.remove(2, 3);
        CHECKS.due("snapshot()", x.snapshot(), 1);
        Checks.insert(x, 1, "-----");
        CHECKS.due("kept behind an insertion", Checks.read(x, 1), "abdef");
        x.undo();
        x.undo();
        CHECKS.due("kept behind undo()", Checks.read(x, 1), "abdef");
        CHECKS.due("the text goes its way", Checks.read(x, 0), "abcdef");
        VersionedText full = Checks.holding(store, "xy".repeat(80));
        CHECKS.due("snapshot() of a full text", full.snapshot(), 1);
        full.remove(0, 160);
        CHECKS.due("kept whole", Checks.read(full, 1), "xy".repeat(80));
    }

    private static void promise13Release(int store) {
        VersionedText x = Checks.holding(store, "ab");
        CHECKS.due("release(1) of none", x.release(1), false);
        CHECKS.due("release(0), the text", x.release(0), false);
        x.snapshot();
        x.snapshot();
        for (int version : NO_VERSIONS) {
            CHECKS.due("release(" + version + ")", x.release(version), false);
        }
        CHECKS.due("release(3) of none", x.release(3), false);
        CHECKS.due("release(1)", x.release(1), true);
        CHECKS.due("release(1) again", x.release(1), false);
        CHECKS.due("unit(1, 0) is gone", x.unit(1, 0), -1);
        CHECKS.due("count(1, 0) is gone", x.count(1, 0), -1);
        CHECKS.due("place(1, 0, 0) is gone", x.place(1, 0, 0), -1);
        CHECKS.due("item(1, 0, 0) is gone", x.item(1, 0, 0), -1);
        CHECKS.due("find(1, 0) is gone", Checks.find(x, 1, 0, "a"), -1);
        CHECKS.due("same(1, 1) is gone", x.same(1, 1), false);
        CHECKS.due("the other one stays", Checks.read(x, 2), "ab");
        CHECKS.due("the text stays", Checks.read(x, 0), "ab");
        CHECKS.due("release(2)", x.release(2), true);
        CHECKS.due("snapshot() from 1 again", x.snapshot(), 1);
    }

    private static void promise14Unit(int store) {
        VersionedText x = Checks.holding(store, "a\u0000\uFFFFz");
        CHECKS.due("unit(0, 0)", x.unit(0, 0), 'a');
        CHECKS.due("unit(0, 1)", x.unit(0, 1), 0);
        CHECKS.due("unit(0, 2)", x.unit(0, 2), 65535);
        CHECKS.due("unit(0, 3)", x.unit(0, 3), 'z');
        for (int i : new int[] {-1, 4, 159, 160, 161, Integer.MIN_VALUE, Integer.MAX_VALUE}) {
            CHECKS.due("unit(0, " + i + ")", x.unit(0, i), -1);
        }
        for (int version : NO_VERSIONS) {
            CHECKS.due("unit(" + version + ", 0)", x.unit(version, 0), -1);
        }
        CHECKS.due("unit(1, 0) of none", x.unit(1, 0), -1);
        x.snapshot();
        x.remove(0, 3);
        CHECKS.due("unit(1, 0)", x.unit(1, 0), 'a');
        CHECKS.due("unit(1, 4)", x.unit(1, 4), -1);
        CHECKS.due("unit(0, 0)", x.unit(0, 0), 'z');
        CHECKS.due("unit(0, 1) is no more", x.unit(0, 1), -1);
    }

    private static void promise18Same(int store) {
        VersionedText x = Checks.holding(store, "abc");
        x.snapshot();
        CHECKS.due("same(0, 1)", x.same(0, 1), true);
        CHECKS.due("same(1, 0)", x.same(1, 0), true);
        CHECKS.due("same(0, 0)", x.same(0, 0), true);
        CHECKS.due("same(1, 1)", x.same(1, 1), true);
        CHECKS.due("same(0, 2) of none", x.same(0, 2), false);
        CHECKS.due("same(2, 0) of none", x.same(2, 0), false);
        CHECKS.due("same(2, 2) of none", x.same(2, 2), false);
        for (int version : NO_VERSIONS) {
            CHECKS.due("same(0, " + version + ")", x.same(0, version), false);
            CHECKS.due("same(" + version + ", 0)", x.same(version, 0), false);
            CHECKS.due("same(" + version + ", itself)", x.same(version, version), false);
        }
        Checks.replace(x, 2, 3, "C");
        CHECKS.due("same(0, 1) with another last unit", x.same(0, 1), false);
        Checks.replace(x, 2, 3, "cd");
        CHECKS.due("same(0, 1) with one unit more", x.same(0, 1), false);
        CHECKS.due("same(1, 0) with one unit less", x.same(1, 0), false);
        x.remove(3, 4);
        CHECKS.due("same(0, 1) by another way", x.same(0, 1), true);
        x.remove(0, 3);
        x.snapshot();
        CHECKS.due("same(0, 2) of empty texts", x.same(0, 2), true);
        CHECKS.due("same(1, 2)", x.same(1, 2), false);
    }
}
