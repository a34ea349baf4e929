import java.util.function.Supplier;

/** Promise 11 and the guard of the edits: which places it refuses, and which it does not. */
public final class GuardTest {
    private static final String TEXT = "a" + Texts.PICTURE + "e" + Texts.MARK + "\r\n";
    /** A guard, and a place of the text that is inside one of its items. */
    private static final int[][] INSIDE = {{1, 2}, {3, 2}, {3, 4}, {3, 6}};

    private static final Checks CHECKS = new Checks("GuardTest");

    public static void main(String[] args) {
        for (int store : Texts.STORES) {
            guardIs0AtFirst(store);
            guard0NeverRefuses(store);
            insertInsideAnItem(store);
            removeFromOrToInsideAnItem(store);
            replaceFromOrToInsideAnItem(store);
            beginningsAndEndsAreNotInside(store);
            placesOfTheTextBeforeTheEditCount(store);
            guardRefusesNoUndo(store);
            guardIsFromNowOn(store);
            otherNumbersAreRefused(store);
        }
        CHECKS.close();
    }

    private static Supplier<VersionedText> guarded(int store, int metric) {
        return Texts.then(Texts.made(store, TEXT, "-="), x -> x.guard(metric));
    }

    private static void isLet(int store, int metric, int place) {
        Supplier<VersionedText> made = guarded(store, metric);
        String of = " at " + place + ", guard " + metric;
        CHECKS.due("insert" + of, made.get().insert(place), true);
        CHECKS.due("remove to a place" + of, made.get().remove(0, place), place > 0);
        CHECKS.due("remove from a place" + of, made.get().remove(place, 7), place < 7);
        CHECKS.due("replace to a place" + of, made.get().replace(0, place), true);
        CHECKS.due("replace from a place" + of, made.get().replace(place, 7), true);
        CHECKS.due("replace nothing" + of, made.get().replace(place, place), true);
    }

    private static void guardIs0AtFirst(int store) {
        CHECKS.sentence("The GUARD is 0 (at first)");
        VersionedText x = Texts.holding(store, TEXT);
        CHECKS.due("insert(2) in a point", Texts.insert(x, 2, "-"), true);
        CHECKS.due("insert(7) in 13 and 10", Texts.insert(x, 7, "-"), true);
        CHECKS.isToldAlike("guard(0)", guarded(store, 0), Texts.made(store, TEXT, "-="));
    }

    private static void guard0NeverRefuses(int store) {
        CHECKS.sentence("An edit is refused if it has a place that is inside an item "
                + "(0: never).");
        for (int place = 0; place <= 7; place++) {
            isLet(store, 0, place);
        }
    }

    private static void insertInsideAnItem(int store) {
        CHECKS.sentence("4: False when the guard refuses it.");
        for (int[] inside : INSIDE) {
            int place = inside[1];
            CHECKS.isFalse("insert(" + place + "), guard " + inside[0],
                    guarded(store, inside[0]), x -> x.insert(place));
        }
        Supplier<VersionedText> flags = Texts.then(
                Texts.made(store, Texts.FLAG.repeat(4), "-"), x -> x.guard(3));
        for (int place = 0; place <= 8; place++) {
            CHECKS.due("insert(" + place + ") in four flags", flags.get().insert(place),
                    place % 4 == 0);
        }
    }

    private static void removeFromOrToInsideAnItem(int store) {
        CHECKS.sentence("5: False when the guard refuses one of them.");
        for (int[] inside : INSIDE) {
            int place = inside[1];
            Supplier<VersionedText> made = guarded(store, inside[0]);
            String of = ", guard " + inside[0];
            CHECKS.isFalse("remove(0, " + place + ")" + of, made, x -> x.remove(0, place));
            CHECKS.isFalse("remove(" + place + ", 7)" + of, made, x -> x.remove(place, 7));
        }
        CHECKS.isFalse("remove(2, 4), both inside", guarded(store, 3), x -> x.remove(2, 4));
    }

    private static void replaceFromOrToInsideAnItem(int store) {
        CHECKS.sentence("6: False when the guard refuses one of them.");
        for (int[] inside : INSIDE) {
            int place = inside[1];
            Supplier<VersionedText> made = guarded(store, inside[0]);
            String of = ", guard " + inside[0];
            CHECKS.isFalse("replace(0, " + place + ")" + of, made, x -> x.replace(0, place));
            CHECKS.isFalse("replace(" + place + ", 7)" + of, made, x -> x.replace(place, 7));
            CHECKS.isFalse("replace(" + place + ", the same)" + of, made,
                    x -> x.replace(place, place));
        }
        CHECKS.isFalse("replace(4, 6), both inside", guarded(store, 3), x -> x.replace(4, 6));
    }

    private static void beginningsAndEndsAreNotInside(int store) {
        CHECKS.sentence("A place is INSIDE an item if it lies behind its beginning "
                + "and before its end.");
        for (int place : new int[] {0, 1, 3, 4, 5, 6, 7}) {
            isLet(store, 1, place);
        }
        for (int place : new int[] {0, 1, 3, 5, 7}) {
            isLet(store, 3, place);
        }
        for (int metric : new int[] {0, 1, 3}) {
            VersionedText x = new VersionedText(store);
            x.guard(metric);
            CHECKS.due("insert(0) in the empty text", Texts.insert(x, 0, TEXT), true);
            CHECKS.due("remove(0, 7) of the whole text", x.remove(0, 7), true);
            VersionedText full = Texts.holding(store, Texts.PICTURE.repeat(80));
            full.guard(metric);
            CHECKS.due("remove(158, 160) of a full text", full.remove(158, 160), true);
        }
    }

    private static void placesOfTheTextBeforeTheEditCount(int store) {
        CHECKS.sentence("An edit is refused if it has a place that is inside an item.");
        VersionedText x = Texts.made(store, "ab", Texts.MARK).get();
        x.guard(3);
        CHECKS.due("insert(1) of a mark", x.insert(1), true);
        CHECKS.due("insert(1) again, inside now", x.insert(1), false);
        CHECKS.due("remove(0, 2)", x.remove(0, 2), true);
        CHECKS.due("replace(0, 1) by a mark", x.replace(0, 1), true);
        VersionedText halves = Texts.made(store, "\uD83D", "\uDE00").get();
        halves.guard(1);
        CHECKS.due("insert(1) of the other half", halves.insert(1), true);
        CHECKS.due("insert(1) again, inside now", halves.insert(1), false);
        CHECKS.due("insert(2), behind it", halves.insert(2), true);
    }

    private static void guardRefusesNoUndo(int store) {
        CHECKS.sentence("An edit is refused if it has a place that is inside an item.");
        VersionedText x = Texts.made(store, "e" + Texts.MARK, "-").get();
        CHECKS.due("insert(1)", x.insert(1), true);
        CHECKS.due("guard(3)", x.guard(3), true);
        CHECKS.due("undo()", x.undo(), true);
        CHECKS.due("redo()", x.redo(), true);
        CHECKS.due("the text", Texts.read(x, 0), "e-" + Texts.MARK);
        CHECKS.due("undo()", x.undo(), true);
        CHECKS.due("the guard stays", x.insert(1), false);
    }

    private static void guardIsFromNowOn(int store) {
        CHECKS.sentence("11: The guard is 0, 1 or 3 from now on");
        int[] guards = {0, 1, 3};
        for (int before : guards) {
            for (int now : guards) {
                Supplier<VersionedText> made = Texts.then(guarded(store, before), x -> {
                    CHECKS.due("guard(" + now + ")", x.guard(now), true);
                });
                CHECKS.isToldAlike("guard(" + now + ") when it was " + before, made,
                        guarded(store, now));
            }
        }
    }

    private static void otherNumbersAreRefused(int store) {
        CHECKS.sentence("11: false for other numbers.");
        CHECKS.isFalseInEveryState(store, "guard(2)", x -> x.guard(2));
        for (int metric : Texts.beyond(3)) {
            CHECKS.isFalseInEveryState(store, "guard(" + metric + ")", x -> x.guard(metric));
        }
        for (int guard : new int[] {0, 1, 3}) {
            CHECKS.isFalse("guard(2) when it is " + guard, guarded(store, guard),
                    x -> x.guard(2));
        }
    }
}
