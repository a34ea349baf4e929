/** Promises 7 to 10: undo, redo, steps and seal, and what goes on with a step. */
public final class StepsTest {
    private static final Checks CHECKS = new Checks("StepsTest");

    public static void main(String[] args) {
        for (int store : Checks.STORES) {
            promise7Undo(store);
            promise7UndoesEightAtMost(store);
            promise8Redo(store);
            promise8RedoIsForgotten(store);
            promise9Steps(store);
            promise9TypingGoesOn(store);
            promise9WhatBeginsAStep(store);
            promise9WhatBreaksTyping(store);
            promise9WhatDoesNotBreakTyping(store);
            promise10Seal(store);
        }
        CHECKS.close();
    }

    private static void promise7Undo(int store) {
        VersionedText x = Checks.holding(store, "abc");
        x.remove(1, 2);
        Checks.replace(x, 0, 1, "XY");
        CHECKS.due("undo() of replace", x.undo(), true);
        CHECKS.due("the text", Checks.read(x, 0), "ac");
        CHECKS.due("undo() of remove", x.undo(), true);
        CHECKS.due("the text", Checks.read(x, 0), "abc");
        CHECKS.due("undo() of insert", x.undo(), true);
        CHECKS.due("the text", Checks.read(x, 0), "");
        CHECKS.due("undo() of nothing", x.undo(), false);
        CHECKS.due("the text", Checks.read(x, 0), "");
        CHECKS.due("the clip is not undone", x.insert(0), true);
        CHECKS.due("the text", Checks.read(x, 0), "XY");
    }

    private static void promise7UndoesEightAtMost(int store) {
        VersionedText x = new VersionedText(store);
        String all = "";
        for (int i = 0; i < 20; i++) {
            String units = (char) ('a' + i) + ".";
            Checks.insert(x, all.length(), units);
            all += units;
            CHECKS.due("steps(0) behind " + (i + 1), x.steps(0), Math.min(8, i + 1));
        }
        for (int i = 1; i <= 8; i++) {
            CHECKS.due("undo() " + i, x.undo(), true);
            CHECKS.due("the text", Checks.read(x, 0), all.substring(0, 40 - 2 * i));
        }
        CHECKS.due("undo() 9", x.undo(), false);
        CHECKS.due("the text", Checks.read(x, 0), all.substring(0, 24));
        CHECKS.due("steps(0)", x.steps(0), 0);
        CHECKS.due("steps(1)", x.steps(1), 8);
        CHECKS.due("a new step", Checks.insert(x, 0, "!!"), true);
        CHECKS.due("undo() of it", x.undo(), true);
        CHECKS.due("undo() of what is forgotten", x.undo(), false);
        CHECKS.due("the text", Checks.read(x, 0), all.substring(0, 24));
    }

    private static void promise8Redo(int store) {
        VersionedText x = Checks.holding(store, "abc");
        x.remove(1, 2);
        Checks.replace(x, 0, 1, "XY");
        x.undo();
        x.undo();
        x.undo();
        CHECKS.due("redo() of insert", x.redo(), true);
        CHECKS.due("the text", Checks.read(x, 0), "abc");
        CHECKS.due("redo() of remove", x.redo(), true);
        CHECKS.due("the text", Checks.read(x, 0), "ac");
        CHECKS.due("undo() again", x.undo(), true);
        CHECKS.due("redo() again", x.redo(), true);
        CHECKS.due("redo() of replace", x.redo(), true);
        CHECKS.due("the text", Checks.read(x, 0), "XYc");
        CHECKS.due("redo() of nothing", x.redo(), false);
        CHECKS.due("the text", Checks.read(x, 0), "XYc");
    }

    private static void promise8RedoIsForgotten(int store) {
        VersionedText x = Checks.holding(store, "abc");
        x.remove(0, 1);
        x.undo();
        CHECKS.due("a refused edit", x.remove(2, 2), false);
        CHECKS.due("steps(1) behind it", x.steps(1), 1);
        CHECKS.due("an edit", x.remove(2, 3), true);
        CHECKS.due("steps(1) behind it", x.steps(1), 0);
        CHECKS.due("redo()", x.redo(), false);
        CHECKS.due("the text", Checks.read(x, 0), "ab");
        VersionedText typed = new VersionedText(store);
        Checks.insert(typed, 0, "a");
        Checks.insert(typed, 1, "b");
        typed.undo();
        CHECKS.due("typing behind undo()", Checks.insert(typed, 0, "c"), true);
        CHECKS.due("steps(1) behind it", typed.steps(1), 0);
        CHECKS.due("going on", typed.insert(1), true);
        CHECKS.due("undo()", typed.undo(), true);
        CHECKS.due("redo()", typed.redo(), true);
        CHECKS.due("the whole step again", Checks.read(typed, 0), "cc");
    }

    private static void promise9Steps(int store) {
        VersionedText x = new VersionedText(store);
        Checks.insert(x, 0, "ab");
        Checks.insert(x, 1, "cd");
        Checks.insert(x, 0, "ef");
        x.undo();
        CHECKS.due("steps(0)", x.steps(0), 2);
        CHECKS.due("steps(1)", x.steps(1), 1);
        for (int which : new int[] {-1, 2, Integer.MIN_VALUE, Integer.MAX_VALUE}) {
            CHECKS.due("steps(" + which + ")", x.steps(which), -1);
        }
        x.redo();
        CHECKS.due("steps(0) behind redo()", x.steps(0), 3);
        CHECKS.due("steps(1) behind redo()", x.steps(1), 0);
    }

    private static void promise9TypingGoesOn(int store) {
        VersionedText x = Checks.holding(store, "..");
        for (int i = 0; i < 30; i++) {
            Checks.insert(x, 1 + i, "" + (char) ('a' + i % 26));
        }
        CHECKS.due("thirty insertions are one step", x.steps(0), 2);
        CHECKS.due("undo() of all", x.undo(), true);
        CHECKS.due("the text", Checks.read(x, 0), "..");
        CHECKS.due("redo() of all", x.redo(), true);
        CHECKS.due("the text", Checks.read(x, 0), ".abcdefghijklmnopqrstuvwxyzabcd.");
        VersionedText full = Checks.holding(store, "s".repeat(158));
        int before = full.steps(0);
        CHECKS.due("the 159th", Checks.insert(full, 3, "x"), true);
        CHECKS.due("the 160th", full.insert(4), true);
        CHECKS.due("one too many", full.insert(5), false);
        CHECKS.due("one step more", full.steps(0), before + 1);
        VersionedText long8 = new VersionedText(store);
        for (int i = 0; i < 9; i++) {
            Checks.insert(long8, 0, "zz");
        }
        Checks.insert(long8, 0, "x");
        long8.insert(1);
        CHECKS.due("going on with the ninth forgets none", long8.steps(0), 8);
        for (int i = 0; i < 8; i++) {
            long8.undo();
        }
        CHECKS.due("the text before the latest eight", Checks.read(long8, 0), "zzzz");
    }

    /** Types an x at place 0, then makes the edit that each row tells of, and counts the steps. */
    private static void promise9WhatBeginsAStep(int store) {
        CHECKS.due("typing before what was typed", stepsBehind(store, 0, "y"), 2);
        CHECKS.due("typing behind what was typed", stepsBehind(store, 1, "y"), 1);
        CHECKS.due("a clip of two units", stepsBehind(store, 1, "yz"), 2);
        CHECKS.due("a 10", stepsBehind(store, 1, "\n"), 2);
        CHECKS.due("a 13", stepsBehind(store, 1, "\r"), 2);
        CHECKS.due("a half of a point", stepsBehind(store, 1, "\uDE00"), 1);
        for (String first : new String[] {"\n", "\r", "ab"}) {
            VersionedText x = new VersionedText(store);
            Checks.insert(x, 0, first);
            Checks.insert(x, first.length(), "y");
            CHECKS.due("the step before is no typing", x.steps(0), 2);
            Checks.insert(x, first.length() + 1, "y");
            CHECKS.due("the one behind it is", x.steps(0), 2);
        }
        VersionedText x = new VersionedText(store);
        Checks.insert(x, 0, "x");
        CHECKS.due("replace(1, 1) by one unit", Checks.replace(x, 1, 1, "y"), true);
        CHECKS.due("never goes on", x.steps(0), 2);
        CHECKS.due("insert(2) behind it", x.insert(2), true);
        CHECKS.due("a replacement is no insertion to go on with", x.steps(0), 3);
        VersionedText removed = new VersionedText(store);
        Checks.insert(removed, 0, "x");
        removed.insert(1);
        removed.remove(1, 2);
        removed.insert(1);
        CHECKS.due("the step before is a removal", removed.steps(0), 3);
        removed.insert(0);
        CHECKS.due("at another place", removed.steps(0), 4);
        removed.insert(3);
        CHECKS.due("at the end of the text, not of what was typed", removed.steps(0), 5);
    }

    private static int stepsBehind(int store, int at, String units) {
        VersionedText x = new VersionedText(store);
        Checks.insert(x, 0, "x");
        Checks.insert(x, at, units);
        return x.steps(0);
    }

    private static VersionedText typing(int store) {
        VersionedText x = Checks.holding(store, "..");
        Checks.insert(x, 0, "x");
        return x;
    }

    private static void promise9WhatBreaksTyping(int store) {
        VersionedText x = typing(store);
        x.undo();
        x.redo();
        x.insert(1);
        CHECKS.due("undo() and redo() break typing", x.steps(0), 3);
        x.insert(2);
        CHECKS.due("but for the step behind them", x.steps(0), 3);
        VersionedText back = typing(store);
        back.undo();
        back.insert(1);
        CHECKS.due("undo() alone breaks typing", back.steps(0), 2);
        CHECKS.due("the text", Checks.read(back, 0), ".x.");
        VersionedText guarded = typing(store);
        guarded.guard(0);
        guarded.insert(1);
        CHECKS.due("guard(0) breaks typing, though it is 0 already", guarded.steps(0), 3);
        guarded.insert(2);
        CHECKS.due("but for the step behind it", guarded.steps(0), 3);
        VersionedText undone = new VersionedText(store);
        Checks.insert(undone, 0, "a");
        undone.seal();
        undone.insert(1);
        undone.undo();
        undone.insert(1);
        CHECKS.due("undo() of a later step breaks typing", undone.steps(0), 2);
        VersionedText cut = typing(store);
        cut.remove(2, 3);
        cut.insert(1);
        CHECKS.due("a removal elsewhere breaks typing", cut.steps(0), 4);
        VersionedText replaced = typing(store);
        Checks.replace(replaced, 2, 3, "yy");
        Checks.insert(replaced, 1, "x");
        CHECKS.due("a replacement elsewhere breaks typing", replaced.steps(0), 4);
    }

    private static void promise9WhatDoesNotBreakTyping(int store) {
        VersionedText x = typing(store);
        CHECKS.due("redo() is refused", x.redo(), false);
        CHECKS.due("guard(2) is refused", x.guard(2), false);
        CHECKS.due("insert(9) is refused", x.insert(9), false);
        CHECKS.due("remove(1, 1) is refused", x.remove(1, 1), false);
        CHECKS.due("replace(2, 1) is refused", x.replace(2, 1), false);
        CHECKS.due("steps(0)", x.steps(0), 2);
        CHECKS.due("snapshot()", x.snapshot(), 1);
        CHECKS.due("find(0, 0)", x.find(0, 0), 0);
        CHECKS.due("release(1)", x.release(1), true);
        CHECKS.due("another unit", Checks.insert(x, 1, "y"), true);
        CHECKS.due("still the same step", x.steps(0), 2);
        CHECKS.due("undo()", x.undo(), true);
        CHECKS.due("the text", Checks.read(x, 0), "..");
    }

    private static void promise10Seal(int store) {
        VersionedText x = typing(store);
        x.seal();
        CHECKS.due("a refused insertion", x.insert(-1), false);
        x.insert(1);
        CHECKS.due("seal() makes the next insertion a step", x.steps(0), 3);
        x.insert(2);
        CHECKS.due("and not the one behind it", x.steps(0), 3);
        x.seal();
        x.seal();
        CHECKS.due("seal() changes no steps", x.steps(0), 3);
        CHECKS.due("seal() changes no text", Checks.read(x, 0), "xxx..");
        x.undo();
        CHECKS.due("undo() to the seal", Checks.read(x, 0), "x..");
        x.seal();
        CHECKS.due("seal() leaves what is undone", x.steps(1), 1);
        CHECKS.due("redo()", x.redo(), true);
        CHECKS.due("the text", Checks.read(x, 0), "xxx..");
    }
}
