/** Promises 12 to 14 and 18: snapshot, release, unit and same. */
public final class VersionsTest {
    private static final Checks CHECKS = new Checks("VersionsTest");

    public static void main(String[] args) {
        for (int store : Texts.STORES) {
            noSnapshotsAtFirst(store);
            snapshotsKeepWhatTheTextWas(store);
            snapshotTakesTheLeastNumber(store);
            snapshotWithAllFour(store);
            snapshotOfEmptyAndFullTexts(store);
            releaseLetsASnapshotGo(store);
            releaseOfNoSnapshot(store);
            unitsAreThoseOfTheVersion(store);
            unitOfNoVersion(store);
            unitThatIsNot(store);
            sameUnits(store);
            otherUnits(store);
            sameOfNoVersion(store);
        }
        CHECKS.close();
    }

    private static void noSnapshotsAtFirst(int store) {
        CHECKS.sentence("VERSIONS: 0 is the TEXT, which is empty at first. "
                + "1 .. 4 are SNAPSHOTS; at first there are none.");
        VersionedText x = new VersionedText(store);
        CHECKS.due("count(0, 0)", x.count(0, 0), 0);
        CHECKS.due("same(0, 0)", x.same(0, 0), true);
        for (int version = 1; version <= 4; version++) {
            CHECKS.due("count(" + version + ", 0)", x.count(version, 0), -1);
            CHECKS.due("count(" + version + ", 2)", x.count(version, 2), -1);
            CHECKS.due("same(0, " + version + ")", x.same(0, version), false);
            CHECKS.due("release(" + version + ")", x.release(version), false);
        }
    }

    private static void snapshotsKeepWhatTheTextWas(int store) {
        CHECKS.sentence("SNAPSHOTS, that keep what the text was");
        VersionedText x = Texts.holding(store, "abcdef");
        x.remove(2, 3);
        CHECKS.due("snapshot()", x.snapshot(), 1);
        Texts.insert(x, 1, "-----");
        CHECKS.due("kept behind an insertion", Texts.read(x, 1), "abdef");
        Texts.replace(x, 0, 3, "=");
        x.remove(0, 1);
        CHECKS.due("kept behind a removal", Texts.read(x, 1), "abdef");
        x.undo();
        x.undo();
        x.undo();
        x.undo();
        CHECKS.due("kept behind undo()", Texts.read(x, 1), "abdef");
        CHECKS.due("the text goes its way", Texts.read(x, 0), "abcdef");
        CHECKS.due("no snapshot is a step", x.steps(0), 1);
    }

    private static void snapshotTakesTheLeastNumber(int store) {
        CHECKS.sentence("12: its number, the least of 1 .. 4 that there is none of");
        for (int gone = 1; gone < 16; gone++) {
            VersionedText x = Texts.holding(store, "ab");
            for (int version = 1; version <= 4; version++) {
                CHECKS.due("snapshot()", x.snapshot(), version);
            }
            x.remove(0, 1);
            for (int version = 4; version >= 1; version--) {
                if ((gone >> version - 1 & 1) == 1) {
                    x.release(version);
                }
            }
            for (int version = 1; version <= 4; version++) {
                boolean anew = (gone >> version - 1 & 1) == 1;
                if (anew) {
                    CHECKS.due("snapshot() of the least", x.snapshot(), version);
                }
                CHECKS.due("version " + version, Texts.read(x, version), anew ? "b" : "ab");
            }
            CHECKS.due("snapshot() with all four", x.snapshot(), -1);
        }
    }

    private static void snapshotWithAllFour(int store) {
        CHECKS.sentence("12: NONE when there are all four.");
        CHECKS.isNone("snapshot()", () -> States.manySteps(store), VersionedText::snapshot);
        CHECKS.isNone("snapshot() with steps undone", () -> States.allUndone(store),
                VersionedText::snapshot);
        CHECKS.isNone("snapshot() of the empty text", () -> fourOfNothing(store),
                VersionedText::snapshot);
        CHECKS.isNone("snapshot() of another text", Texts.then(() -> fourOfNothing(store),
                x -> Texts.insert(x, 0, "abc")), VersionedText::snapshot);
    }

    private static VersionedText fourOfNothing(int store) {
        VersionedText x = new VersionedText(store);
        for (int i = 0; i < 4; i++) {
            x.snapshot();
        }
        return x;
    }

    private static void snapshotOfEmptyAndFullTexts(int store) {
        CHECKS.sentence("12: A snapshot of the text as it is");
        VersionedText x = new VersionedText(store);
        CHECKS.due("snapshot() of the empty text", x.snapshot(), 1);
        CHECKS.due("count(1, 0)", x.count(1, 0), 0);
        CHECKS.due("count(1, 2)", x.count(1, 2), 1);
        CHECKS.due("unit(1, 0)", x.unit(1, 0), -1);
        VersionedText full = Texts.holding(store, "xy".repeat(80));
        CHECKS.due("snapshot() of a full text", full.snapshot(), 1);
        full.remove(0, 160);
        CHECKS.due("kept whole", Texts.read(full, 1), "xy".repeat(80));
        full.release(1);
        Texts.insert(full, 0, "ab");
        CHECKS.due("snapshot() of a short text", full.snapshot(), 1);
        CHECKS.due("nothing is left of the longer one", Texts.read(full, 1), "ab");
        CHECKS.due("unit(1, 2)", full.unit(1, 2), -1);
    }

    private static void releaseLetsASnapshotGo(int store) {
        CHECKS.sentence("13: A snapshot goes");
        VersionedText x = Texts.holding(store, "ab");
        x.snapshot();
        x.snapshot();
        Texts.clip(x, "a");
        CHECKS.due("release(1)", x.release(1), true);
        CHECKS.due("unit(1, 0) is gone", x.unit(1, 0), -1);
        CHECKS.due("count(1, 0) is gone", x.count(1, 0), -1);
        CHECKS.due("place(1, 0, 0) is gone", x.place(1, 0, 0), -1);
        CHECKS.due("item(1, 0, 0) is gone", x.item(1, 0, 0), -1);
        CHECKS.due("find(1, 0) is gone", x.find(1, 0), -1);
        CHECKS.due("same(1, 1) is gone", x.same(1, 1), false);
        CHECKS.due("same(0, 1) is gone", x.same(0, 1), false);
        CHECKS.due("the other one stays", Texts.read(x, 2), "ab");
        CHECKS.due("the text stays", Texts.read(x, 0), "ab");
        CHECKS.due("release(2)", x.release(2), true);
        CHECKS.due("snapshot() from 1 again", x.snapshot(), 1);
    }

    private static void releaseOfNoSnapshot(int store) {
        CHECKS.sentence("13: false when there is none such.");
        CHECKS.isFalseInEveryState(store, "release(0), the text", x -> x.release(0));
        for (int version : Texts.beyond(4)) {
            CHECKS.isFalseInEveryState(store, "release(" + version + ")",
                    x -> x.release(version));
        }
        for (int version = 1; version <= 4; version++) {
            int asked = version;
            CHECKS.isFalse("release(" + version + ") of none", () -> new VersionedText(store),
                    x -> x.release(asked));
            CHECKS.isFalse("release(" + version + ") again", () -> {
                VersionedText x = States.manySteps(store);
                CHECKS.due("release(" + asked + ")", x.release(asked), true);
                return x;
            }, x -> x.release(asked));
        }
    }

    private static void unitsAreThoseOfTheVersion(int store) {
        CHECKS.sentence("14: Unit i of a version");
        VersionedText x = Texts.holding(store, "a\u0000\uFFFFz");
        x.snapshot();
        x.remove(0, 3);
        CHECKS.due("unit(1, 0)", x.unit(1, 0), 'a');
        CHECKS.due("unit(1, 1)", x.unit(1, 1), 0);
        CHECKS.due("unit(1, 2)", x.unit(1, 2), 65535);
        CHECKS.due("unit(1, 3)", x.unit(1, 3), 'z');
        CHECKS.due("unit(0, 0)", x.unit(0, 0), 'z');
        CHECKS.due("unit(0, 1) is no more", x.unit(0, 1), -1);
    }

    private static void unitOfNoVersion(int store) {
        CHECKS.sentence("14: NONE when there is no such version");
        for (int version : Texts.beyond(4)) {
            CHECKS.isNoneInEveryState(store, "unit(" + version + ", 0)",
                    x -> x.unit(version, 0));
        }
        for (int version : new int[] {2, 4}) {
            CHECKS.isNone("unit(" + version + ", 0) of none", () -> States.typing(store),
                    x -> x.unit(version, 0));
        }
    }

    private static void unitThatIsNot(int store) {
        CHECKS.sentence("14: NONE when there is no such unit.");
        for (int i : Texts.beyond(159)) {
            CHECKS.isNoneInEveryState(store, "unit(0, " + i + ")", x -> x.unit(0, i));
            CHECKS.isNone("unit(1, " + i + ")", () -> States.typing(store), x -> x.unit(1, i));
        }
        CHECKS.isNoneInEveryState(store, "unit(0, length)", x -> x.unit(0, x.count(0, 0)));
        VersionedText x = Texts.holding(store, "s".repeat(160));
        CHECKS.due("unit(0, 159)", x.unit(0, 159), 's');
        CHECKS.due("unit(0, 160)", x.unit(0, 160), -1);
        x.remove(100, 160);
        CHECKS.due("unit(0, 99)", x.unit(0, 99), 's');
        CHECKS.due("unit(0, 100) is no more", x.unit(0, 100), -1);
        x.remove(0, 100);
        CHECKS.due("unit(0, 0) of the empty text", x.unit(0, 0), -1);
    }

    private static void sameUnits(int store) {
        CHECKS.sentence("18: Whether two versions have the same units");
        VersionedText x = Texts.holding(store, "abc");
        x.snapshot();
        CHECKS.due("same(0, 1)", x.same(0, 1), true);
        CHECKS.due("same(1, 0)", x.same(1, 0), true);
        CHECKS.due("same(0, 0)", x.same(0, 0), true);
        CHECKS.due("same(1, 1)", x.same(1, 1), true);
        Texts.insert(x, 1, "--");
        x.remove(1, 3);
        CHECKS.due("same(0, 1) by another way", x.same(0, 1), true);
        x.remove(0, 3);
        x.snapshot();
        CHECKS.due("same(0, 2) of empty texts", x.same(0, 2), true);
        VersionedText full = Texts.holding(store, "xy".repeat(80));
        full.snapshot();
        full.remove(0, 100);
        full.undo();
        CHECKS.due("same(0, 1) of full texts", full.same(0, 1), true);
    }

    private static void otherUnits(int store) {
        CHECKS.sentence("18: Whether two versions have the same units");
        String[] others = {"Abc", "aBc", "abC", "ab", "bc", "abcd", "zabc", "", "acb"};
        for (String other : others) {
            VersionedText x = Texts.holding(store, "abc");
            x.snapshot();
            x.remove(0, 3);
            Texts.insert(x, 0, other);
            CHECKS.due("same(0, 1) of " + other, x.same(0, 1), false);
            CHECKS.due("same(1, 0) of " + other, x.same(1, 0), false);
        }
        VersionedText full = Texts.holding(store, "s".repeat(160));
        full.snapshot();
        Texts.replace(full, 159, 160, "t");
        CHECKS.due("same(0, 1) but for unit 159", full.same(0, 1), false);
    }

    private static void sameOfNoVersion(int store) {
        CHECKS.sentence("18: false, too, when there is no such version.");
        for (int version : Texts.beyond(4)) {
            CHECKS.isFalseInEveryState(store, "same(0, " + version + ")",
                    x -> x.same(0, version));
            CHECKS.isFalseInEveryState(store, "same(" + version + ", 0)",
                    x -> x.same(version, 0));
            CHECKS.isFalseInEveryState(store, "same(" + version + ", itself)",
                    x -> x.same(version, version));
        }
        for (int version = 1; version <= 4; version++) {
            int asked = version;
            CHECKS.isFalse("same(0, " + version + ") of none", () -> new VersionedText(store),
                    x -> x.same(0, asked));
            CHECKS.isFalse("same(" + version + ", 0) of none", () -> new VersionedText(store),
                    x -> x.same(asked, 0));
            CHECKS.isFalse("same(" + version + ", itself) of none",
                    () -> new VersionedText(store), x -> x.same(asked, asked));
        }
        CHECKS.isFalse("same(1, 2), the second gone", () -> States.typing(store),
                x -> x.same(1, 2));
        CHECKS.isFalse("same(2, 3), the first gone", () -> States.typing(store),
                x -> x.same(2, 3));
    }
}
