/** Promises 7 to 9: undo, redo and steps. What goes on with a step stands in TypingTest. */
public final class StepsTest {
    private static final Checks CHECKS = new Checks("StepsTest");

    public static void main(String[] args) {
        for (int store : Texts.STORES) {
            undoGoesBack(store);
            undoneStepsStayUndone(store);
            undoWithNoStep(store);
            onlyEightCanBeUndone(store);
            forgottenStepsStayForgotten(store);
            ringOfStepsGoesRound(store);
            redoGoesForward(store);
            redoWithNoneUndone(store);
            stepForgetsUndoneOnes(store);
            refusedEditForgetsNone(store);
            stepsAreCounted(store);
            stepsOfOtherNumbers(store);
        }
        CHECKS.close();
    }

    /** Three steps of one kind each: "abc", "ac", "XYc"; the clip is XY. */
    private static VersionedText threeSteps(int store) {
        VersionedText x = Texts.holding(store, "abc");
        x.remove(1, 2);
        Texts.replace(x, 0, 1, "XY");
        return x;
    }

    /** As many insertions of two units at the end: "a.", "a.b.", "a.b.c." and so on. */
    private static VersionedText letters(int store, int steps) {
        VersionedText x = new VersionedText(store);
        for (int i = 0; i < steps; i++) {
            Texts.insert(x, 2 * i, (char) ('a' + i) + ".");
        }
        return x;
    }

    private static String lettersRead(int steps) {
        return "a.b.c.d.e.f.g.h.i.j.k.l.m.n.o.p.q.r.s.t.".substring(0, 2 * steps);
    }

    private static void undoGoesBack(int store) {
        CHECKS.sentence("7: UNDO: the text becomes what it was before the latest step "
                + "that is not undone");
        VersionedText x = threeSteps(store);
        CHECKS.due("undo() of replace", x.undo(), true);
        CHECKS.due("the text", Texts.read(x, 0), "ac");
        CHECKS.due("undo() of remove", x.undo(), true);
        CHECKS.due("the text", Texts.read(x, 0), "abc");
        CHECKS.due("undo() of insert", x.undo(), true);
        CHECKS.due("the text", Texts.read(x, 0), "");
        CHECKS.due("the clip is not undone", x.insert(0), true);
        CHECKS.due("the text", Texts.read(x, 0), "XY");
    }

    private static void undoneStepsStayUndone(int store) {
        CHECKS.sentence("7: the latest step that is not undone");
        VersionedText x = letters(store, 4);
        x.undo();
        x.undo();
        x.redo();
        CHECKS.due("undo() of the third", x.undo(), true);
        CHECKS.due("undo() of the second", x.undo(), true);
        CHECKS.due("the text", Texts.read(x, 0), lettersRead(1));
    }

    private static void undoWithNoStep(int store) {
        CHECKS.sentence("7: False when there is no step that can be undone.");
        CHECKS.isFalse("undo() of nothing", () -> new VersionedText(store),
                VersionedText::undo);
        CHECKS.isFalse("undo() of nothing, with a clip", Texts.made(store, "", "ab"),
                VersionedText::undo);
        for (int steps : new int[] {1, 2, 7, 8, 9, 10, 17, 18, 20}) {
            CHECKS.isFalse("undo() when all are undone of " + steps, () -> {
                VersionedText x = letters(store, steps);
                for (int i = 0; i < Math.min(8, steps); i++) {
                    CHECKS.due("undo() " + i + " of " + steps, x.undo(), true);
                }
                return x;
            }, VersionedText::undo);
        }
    }

    private static void onlyEightCanBeUndone(int store) {
        CHECKS.sentence("Of steps that are not undone only the latest 8 can be undone.");
        for (int steps : new int[] {7, 8, 9, 10, 16, 17, 18, 19, 20}) {
            VersionedText x = letters(store, steps);
            int can = Math.min(8, steps);
            CHECKS.due("steps(0) of " + steps, x.steps(0), can);
            for (int i = 1; i <= can; i++) {
                CHECKS.due("undo() " + i + " of " + steps, x.undo(), true);
            }
            CHECKS.due("the text", Texts.read(x, 0), lettersRead(steps - can));
            CHECKS.due("undo() once more of " + steps, x.undo(), false);
        }
    }

    private static void forgottenStepsStayForgotten(int store) {
        CHECKS.sentence("Of steps that are not undone only the latest 8 can be undone.");
        VersionedText x = letters(store, 10);
        for (int i = 0; i < 5; i++) {
            x.undo();
        }
        CHECKS.due("steps(0), five of ten undone", x.steps(0), 3);
        CHECKS.due("a new step", Texts.insert(x, 0, "!!"), true);
        CHECKS.due("steps(0) behind it", x.steps(0), 4);
        for (int i = 0; i < 4; i++) {
            CHECKS.due("undo() " + i, x.undo(), true);
        }
        CHECKS.due("undo() of what is forgotten", x.undo(), false);
        CHECKS.due("the text", Texts.read(x, 0), lettersRead(2));
    }

    /** Past any ring of texts, steps go back and forward at every turn of it. */
    private static void ringOfStepsGoesRound(int store) {
        CHECKS.sentence("UNDO: what it was before the latest step; REDO: what it was behind it");
        VersionedText x = letters(store, 1);
        for (int steps = 2; steps <= 20; steps++) {
            Texts.insert(x, 2 * steps - 2, (char) ('a' + steps - 1) + ".");
            CHECKS.due("undo() of " + steps, x.undo(), true);
            CHECKS.due("the length", x.count(0, 0), 2 * steps - 2);
            CHECKS.due("redo() of " + steps, x.redo(), true);
            CHECKS.due("the length", x.count(0, 0), 2 * steps);
        }
        CHECKS.isToldAlike("twenty steps, each undone and redone",
                () -> eachUndoneAndRedone(store, 20), () -> letters(store, 20));
    }

    private static VersionedText eachUndoneAndRedone(int store, int steps) {
        VersionedText x = new VersionedText(store);
        for (int i = 0; i < steps; i++) {
            Texts.insert(x, 2 * i, (char) ('a' + i) + ".");
            x.undo();
            x.redo();
        }
        return x;
    }

    private static void redoGoesForward(int store) {
        CHECKS.sentence("8: REDO: what it was behind the step undone latest.");
        VersionedText x = threeSteps(store);
        x.undo();
        x.undo();
        x.undo();
        CHECKS.due("redo() of insert", x.redo(), true);
        CHECKS.due("the text", Texts.read(x, 0), "abc");
        CHECKS.due("redo() of remove", x.redo(), true);
        CHECKS.due("the text", Texts.read(x, 0), "ac");
        CHECKS.due("undo() again", x.undo(), true);
        CHECKS.due("redo() again", x.redo(), true);
        CHECKS.due("the text", Texts.read(x, 0), "ac");
        CHECKS.due("redo() of replace", x.redo(), true);
        CHECKS.due("the text", Texts.read(x, 0), "XYc");
        VersionedText all = letters(store, 20);
        for (int i = 0; i < 8; i++) {
            all.undo();
        }
        for (int i = 1; i <= 8; i++) {
            CHECKS.due("redo() " + i + " of eight", all.redo(), true);
            CHECKS.due("the text", Texts.read(all, 0), lettersRead(12 + i));
        }
    }

    private static void redoWithNoneUndone(int store) {
        CHECKS.sentence("8: False when no step is undone.");
        CHECKS.isFalse("redo() of a new object", () -> new VersionedText(store),
                VersionedText::redo);
        CHECKS.isFalse("redo() behind steps", () -> threeSteps(store), VersionedText::redo);
        CHECKS.isFalse("redo() while typing", () -> States.typing(store), VersionedText::redo);
        CHECKS.isFalse("redo() behind more than eight steps", () -> States.manySteps(store),
                VersionedText::redo);
        CHECKS.isFalse("redo() in a full text", () -> States.full(store), VersionedText::redo);
        CHECKS.isFalse("redo() when all are redone", () -> {
            VersionedText x = States.allUndone(store);
            for (int i = 0; i < 8; i++) {
                CHECKS.due("redo() " + i, x.redo(), true);
            }
            return x;
        }, VersionedText::redo);
        CHECKS.isFalse("redo() of a refused undo()", () -> {
            VersionedText x = new VersionedText(store);
            x.undo();
            return x;
        }, VersionedText::redo);
    }

    private static void stepForgetsUndoneOnes(int store) {
        CHECKS.sentence("A step (not one that goes on with another) "
                + "makes all undone ones forgotten.");
        for (int undone = 1; undone <= 8; undone++) {
            VersionedText x = letters(store, 11);
            for (int i = 0; i < undone; i++) {
                x.undo();
            }
            CHECKS.due("steps(1)", x.steps(1), undone);
            CHECKS.due("a step", Texts.insert(x, 0, "!!"), true);
            CHECKS.due("steps(1) behind it", x.steps(1), 0);
            CHECKS.due("steps(0) behind it", x.steps(0), 8 - undone + 1);
            CHECKS.due("redo()", x.redo(), false);
            CHECKS.due("the text", Texts.read(x, 0), "!!" + lettersRead(11 - undone));
            CHECKS.due("undo() of the step", x.undo(), true);
            CHECKS.due("redo() of it", x.redo(), true);
            CHECKS.due("redo() of a forgotten one", x.redo(), false);
        }
        VersionedText removed = threeSteps(store);
        removed.undo();
        CHECKS.due("remove(0, 1)", removed.remove(0, 1), true);
        CHECKS.due("steps(1) behind it", removed.steps(1), 0);
        VersionedText replaced = threeSteps(store);
        replaced.undo();
        CHECKS.due("replace(0, 1)", replaced.replace(0, 1), true);
        CHECKS.due("steps(1) behind it", replaced.steps(1), 0);
    }

    private static void refusedEditForgetsNone(int store) {
        CHECKS.sentence("An edit that is not refused is a step.");
        VersionedText x = threeSteps(store);
        x.undo();
        CHECKS.due("insert(9)", x.insert(9), false);
        CHECKS.due("remove(1, 1)", x.remove(1, 1), false);
        CHECKS.due("replace(1, 0)", x.replace(1, 0), false);
        CHECKS.due("steps(0)", x.steps(0), 2);
        CHECKS.due("steps(1)", x.steps(1), 1);
        CHECKS.due("redo()", x.redo(), true);
        CHECKS.due("the text", Texts.read(x, 0), "XYc");
    }

    private static void stepsAreCounted(int store) {
        CHECKS.sentence("9: How many steps can be undone (which 0) or redone (which 1)");
        VersionedText none = new VersionedText(store);
        CHECKS.due("steps(0) of a new object", none.steps(0), 0);
        CHECKS.due("steps(1) of a new object", none.steps(1), 0);
        VersionedText x = new VersionedText(store);
        for (int i = 1; i <= 20; i++) {
            Texts.insert(x, 0, "ab");
            CHECKS.due("steps(0) behind step " + i, x.steps(0), Math.min(8, i));
            CHECKS.due("steps(1) behind step " + i, x.steps(1), 0);
        }
        for (int i = 1; i <= 8; i++) {
            x.undo();
            CHECKS.due("steps(0) behind undo() " + i, x.steps(0), 8 - i);
            CHECKS.due("steps(1) behind undo() " + i, x.steps(1), i);
        }
        for (int i = 1; i <= 8; i++) {
            x.redo();
            CHECKS.due("steps(0) behind redo() " + i, x.steps(0), i);
            CHECKS.due("steps(1) behind redo() " + i, x.steps(1), 8 - i);
        }
    }

    private static void stepsOfOtherNumbers(int store) {
        CHECKS.sentence("9: NONE for other numbers.");
        for (int which : Texts.beyond(1)) {
            CHECKS.isNoneInEveryState(store, "steps(" + which + ")", x -> x.steps(which));
        }
    }
}
