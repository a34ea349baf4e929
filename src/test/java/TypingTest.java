import java.util.function.Consumer;

/** Promise 10, and which insertions go on with the step before. */
public final class TypingTest {
    private static final Checks CHECKS = new Checks("TypingTest");

    public static void main(String[] args) {
        for (int store : Texts.STORES) {
            typingIsOneStep(store);
            typingGoesOnToTheLimit(store);
            typingForgetsNoStep(store);
            clipOfOneUnitAlone(store);
            neither10Nor13(store);
            stepBeforeIsOfSuchAlone(store);
            replaceNeverGoesOn(store);
            placeBehindWhatWasInsertedLast(store);
            undoRedoAndGuardBreakTyping(store);
            guardThatIsSetAlreadyBreaksTyping(store);
            refusedCallsDoNotBreakTyping(store);
            otherCallsDoNotBreakTyping(store);
            sealBeginsAStep(store);
            sealChangesNothingElse(store);
        }
        CHECKS.close();
    }

    /** Two steps: "..", and an x typed before it; the clip is x. */
    private static VersionedText typing(int store) {
        VersionedText x = Texts.holding(store, "..");
        Texts.insert(x, 0, "x");
        return x;
    }

    /** How many steps typing() has behind this change and an x typed behind its first one. */
    private static int stepsBehind(int store, Consumer<VersionedText> change) {
        VersionedText x = typing(store);
        change.accept(x);
        Texts.clip(x, "x");
        CHECKS.due("insert(1)", x.insert(1), true);
        return x.steps(0);
    }

    private static void typingIsOneStep(int store) {
        CHECKS.sentence("An edit that is not refused is a step, or goes on with the one before");
        VersionedText x = Texts.holding(store, "..");
        for (int i = 0; i < 30; i++) {
            CHECKS.due("typing " + i, Texts.insert(x, 1 + i, "" + (char) ('a' + i % 26)), true);
            CHECKS.due("steps(0)", x.steps(0), 2);
        }
        CHECKS.due("undo() of all", x.undo(), true);
        CHECKS.due("the text", Texts.read(x, 0), "..");
        CHECKS.due("redo() of all", x.redo(), true);
        CHECKS.due("the text", Texts.read(x, 0), ".abcdefghijklmnopqrstuvwxyzabcd.");
    }

    private static void typingGoesOnToTheLimit(int store) {
        CHECKS.sentence("4: False when the text would be longer than 160");
        VersionedText x = Texts.holding(store, "s".repeat(158));
        int before = x.steps(0);
        CHECKS.due("the 159th", Texts.insert(x, 3, "x"), true);
        CHECKS.due("the 160th", x.insert(4), true);
        CHECKS.due("the 161st", x.insert(5), false);
        CHECKS.due("one step more", x.steps(0), before + 1);
        CHECKS.due("undo() of both", x.undo(), true);
        CHECKS.due("the length", x.count(0, 0), 158);
    }

    private static void typingForgetsNoStep(int store) {
        CHECKS.sentence("Of steps that are not undone only the latest 8 can be undone.");
        VersionedText x = new VersionedText(store);
        for (int i = 0; i < 9; i++) {
            Texts.insert(x, 0, "zz");
        }
        for (int i = 0; i < 9; i++) {
            Texts.insert(x, i, "x");
        }
        CHECKS.due("steps(0)", x.steps(0), 8);
        for (int i = 0; i < 8; i++) {
            CHECKS.due("undo() " + i, x.undo(), true);
        }
        CHECKS.due("undo() 9", x.undo(), false);
        CHECKS.due("the text before the latest eight", Texts.read(x, 0), "zzzz");
    }

    private static int stepsBehindInsertion(int store, String units) {
        VersionedText x = typing(store);
        CHECKS.due("insert(1)", Texts.insert(x, 1, units), true);
        return x.steps(0);
    }

    private static void clipOfOneUnitAlone(int store) {
        CHECKS.sentence("it is an insertion of a clip of one unit");
        CHECKS.due("one unit", stepsBehindInsertion(store, "y"), 2);
        CHECKS.due("two units", stepsBehindInsertion(store, "yz"), 3);
        CHECKS.due("24 units", stepsBehindInsertion(store, Texts.FULL_CLIP), 3);
        CHECKS.due("a point of two units", stepsBehindInsertion(store, Texts.PICTURE), 3);
        CHECKS.due("a half of a point", stepsBehindInsertion(store, "\uDE00"), 2);
        CHECKS.due("a unit 0", stepsBehindInsertion(store, "\u0000"), 2);
        CHECKS.due("a unit 65535", stepsBehindInsertion(store, "\uFFFF"), 2);
        CHECKS.due("a mark", stepsBehindInsertion(store, Texts.MARK), 2);
    }

    private static void neither10Nor13(int store) {
        CHECKS.sentence("one unit that is neither 10 nor 13");
        for (char unit : new char[] {10, 13}) {
            CHECKS.due("a " + (int) unit, stepsBehindInsertion(store, "" + unit), 3);
            VersionedText x = new VersionedText(store);
            Texts.insert(x, 0, "" + unit);
            CHECKS.due("a " + (int) unit + " again", x.insert(1), true);
            CHECKS.due("steps(0)", x.steps(0), 2);
        }
        for (char unit : new char[] {9, 11, 12, 14, 133, 8232}) {
            CHECKS.due("a " + (int) unit, stepsBehindInsertion(store, "" + unit), 2);
        }
    }

    private static void stepBeforeIsOfSuchAlone(int store) {
        CHECKS.sentence("the step before is made of such insertions alone");
        for (String first : new String[] {"\n", "\r", "ab", "\r\n", Texts.PICTURE}) {
            VersionedText x = new VersionedText(store);
            Texts.insert(x, 0, first);
            Texts.insert(x, first.length(), "y");
            CHECKS.due("behind " + Texts.shown(first), x.steps(0), 2);
            Texts.insert(x, first.length() + 1, "y");
            CHECKS.due("behind that one", x.steps(0), 2);
        }
        CHECKS.due("behind a removal", stepsBehind(store, x -> x.remove(1, 2)), 4);
        CHECKS.due("behind a removal elsewhere", stepsBehind(store, x -> x.remove(2, 3)), 4);
        CHECKS.due("behind a replacement", stepsBehind(store, x -> x.replace(0, 1)), 4);
        CHECKS.due("behind a replacement elsewhere", stepsBehind(store, x -> x.replace(2, 3)),
                4);
        CHECKS.due("behind an insertion elsewhere", stepsBehind(store, x -> x.insert(3)), 4);
        goesOnNowhere(store, "a removal", x -> x.remove(1, 2));
        goesOnNowhere(store, "a replacement", x -> x.replace(1, 2));
        goesOnNowhere(store, "an insertion of two units", x -> Texts.insert(x, 1, "yz"));
        goesOnNowhere(store, "an insertion of a break", x -> Texts.insert(x, 1, "\n"));
        VersionedText none = new VersionedText(store);
        CHECKS.due("the first edit", Texts.insert(none, 0, "x"), true);
        CHECKS.due("is a step", none.steps(0), 1);
    }

    /** Behind this step an x is a step of its own, whichever the place that it is put in at. */
    private static void goesOnNowhere(int store, String step, Consumer<VersionedText> change) {
        VersionedText changed = typing(store);
        change.accept(changed);
        for (int at = 0; at <= changed.count(0, 0); at++) {
            VersionedText x = typing(store);
            change.accept(x);
            CHECKS.due("insert(" + at + ") behind " + step, Texts.insert(x, at, "x"), true);
            CHECKS.due("steps(0)", x.steps(0), 4);
        }
    }

    private static void replaceNeverGoesOn(int store) {
        CHECKS.sentence("6: Never goes on with a step.");
        VersionedText x = typing(store);
        CHECKS.due("replace(1, 1) by one unit", x.replace(1, 1), true);
        CHECKS.due("steps(0)", x.steps(0), 3);
        CHECKS.due("replace(2, 2) by one unit", x.replace(2, 2), true);
        CHECKS.due("steps(0)", x.steps(0), 4);
        CHECKS.due("insert(3): a replacement is no insertion to go on with", x.insert(3), true);
        CHECKS.due("steps(0)", x.steps(0), 5);
        CHECKS.due("the text", Texts.read(x, 0), "xxxx..");
        CHECKS.due("undo()", x.undo(), true);
        CHECKS.due("undo()", x.undo(), true);
        CHECKS.due("the text", Texts.read(x, 0), "xx..");
    }

    private static void placeBehindWhatWasInsertedLast(int store) {
        CHECKS.sentence("the edit is at the place behind what that one inserted last");
        for (int at = 0; at <= 6; at++) {
            VersionedText x = Texts.holding(store, "....");
            Texts.insert(x, 1, "x");
            Texts.insert(x, 2, "y");
            CHECKS.due("insert(" + at + ")", x.insert(at), true);
            CHECKS.due("steps(0)", x.steps(0), at == 3 ? 2 : 3);
            CHECKS.due("undo()", x.undo(), true);
            CHECKS.due("the text", Texts.read(x, 0), at == 3 ? "...." : ".xy...");
        }
        VersionedText atStart = typing(store);
        atStart.insert(0);
        CHECKS.due("steps(0) behind insert(0)", atStart.steps(0), 3);
        atStart.insert(1);
        CHECKS.due("the place is behind the latest one", atStart.steps(0), 3);
        atStart.insert(3);
        CHECKS.due("not behind an earlier one", atStart.steps(0), 4);
    }

    private static void undoRedoAndGuardBreakTyping(int store) {
        CHECKS.sentence("since then there was no call of undo(), redo() or guard() "
                + "that was not refused");
        CHECKS.due("undo() and redo()", stepsBehind(store, x -> {
            x.undo();
            x.redo();
        }), 3);
        CHECKS.due("undo() alone", stepsBehind(store, VersionedText::undo), 2);
        for (int metric : new int[] {0, 1, 3}) {
            CHECKS.due("guard(" + metric + ")", stepsBehind(store, x -> x.guard(metric)), 3);
        }
        VersionedText sealed = typing(store);
        sealed.seal();
        sealed.insert(1);
        sealed.undo();
        CHECKS.due("insert(1) behind undo() of a later step", sealed.insert(1), true);
        CHECKS.due("steps(0)", sealed.steps(0), 3);
    }

    private static void guardThatIsSetAlreadyBreaksTyping(int store) {
        CHECKS.sentence("no call of guard() that was not refused; "
                + "11: The guard is 0, 1 or 3 from now on; false for other numbers.");
        for (int metric : new int[] {0, 1, 3}) {
            VersionedText x = typing(store);
            x.guard(metric);
            x.insert(1);
            CHECKS.due("guard(" + metric + ") again", x.guard(metric), true);
            x.insert(2);
            CHECKS.due("steps(0) behind it", x.steps(0), 4);
            CHECKS.due("guard(2)", x.guard(2), false);
            x.insert(3);
            CHECKS.due("steps(0): typing goes on behind a refused one", x.steps(0), 4);
        }
    }

    private static void refusedCallsDoNotBreakTyping(int store) {
        CHECKS.sentence("no call of undo(), redo() or guard() that was not refused");
        CHECKS.due("redo()", stepsBehind(store, x ->
                CHECKS.due("redo()", x.redo(), false)), 2);
        CHECKS.due("guard(2)", stepsBehind(store, x ->
                CHECKS.due("guard(2)", x.guard(2), false)), 2);
        CHECKS.due("insert(9)", stepsBehind(store, x ->
                CHECKS.due("insert(9)", x.insert(9), false)), 2);
        CHECKS.due("remove(1, 1)", stepsBehind(store, x ->
                CHECKS.due("remove(1, 1)", x.remove(1, 1), false)), 2);
        CHECKS.due("replace(2, 1)", stepsBehind(store, x ->
                CHECKS.due("replace(2, 1)", x.replace(2, 1), false)), 2);
        VersionedText x = new VersionedText(store);
        CHECKS.due("undo() of nothing", x.undo(), false);
        Texts.insert(x, 0, "a");
        x.insert(1);
        CHECKS.due("steps(0)", x.steps(0), 1);
    }

    private static void otherCallsDoNotBreakTyping(int store) {
        CHECKS.sentence("since then there was no call of undo(), redo() or guard() "
                + "that was not refused, and none of seal()");
        CHECKS.due("the clip's calls", stepsBehind(store, x -> {
            x.scrap();
            x.type('a');
            x.type('b');
        }), 2);
        CHECKS.due("snapshot() and release()", stepsBehind(store, x -> {
            CHECKS.due("snapshot()", x.snapshot(), 1);
            CHECKS.due("snapshot()", x.snapshot(), 2);
            CHECKS.due("release(1)", x.release(1), true);
        }), 2);
        CHECKS.due("find() and end()", stepsBehind(store, x -> {
            CHECKS.due("find(0, 0)", x.find(0, 0), 0);
            CHECKS.due("end()", x.end(), 1);
        }), 2);
        CHECKS.due("the calls that measure", stepsBehind(store, x -> {
            CHECKS.due("steps(0)", x.steps(0), 2);
            CHECKS.due("count(0, 3)", x.count(0, 3), 3);
            CHECKS.due("place(0, 1, 1)", x.place(0, 1, 1), 1);
            CHECKS.due("item(0, 2, 3)", x.item(0, 2, 3), 0);
            CHECKS.due("same(0, 0)", x.same(0, 0), true);
            CHECKS.due("unit(0, 0)", x.unit(0, 0), 'x');
        }), 2);
    }

    private static void sealBeginsAStep(int store) {
        CHECKS.sentence("10: The next insertion begins a step.");
        CHECKS.due("seal()", stepsBehind(store, VersionedText::seal), 3);
        VersionedText x = typing(store);
        x.seal();
        CHECKS.due("a refused insertion is not the next", x.insert(-1), false);
        x.insert(1);
        CHECKS.due("steps(0)", x.steps(0), 3);
        x.insert(2);
        CHECKS.due("the one behind it goes on", x.steps(0), 3);
        x.undo();
        CHECKS.due("undo() to the seal", Texts.read(x, 0), "x..");
        VersionedText first = new VersionedText(store);
        first.seal();
        Texts.insert(first, 0, "a");
        first.insert(1);
        CHECKS.due("steps(0) behind seal() of a new object", first.steps(0), 1);
    }

    private static void sealChangesNothingElse(int store) {
        CHECKS.sentence("10: The next insertion begins a step.");
        States.all(store).forEach((state, made) ->
                CHECKS.isToldAlike("seal() twice, " + state,
                        Texts.then(made, x -> {
                            x.seal();
                            x.seal();
                        }), Texts.then(made, VersionedText::seal)));
        for (String state : new String[] {"new", "some steps undone", "all steps undone",
            "text and clip full"}) {
            CHECKS.changesNothing("seal(), " + state, States.all(store).get(state),
                    VersionedText::seal);
        }
        VersionedText x = typing(store);
        x.seal();
        CHECKS.due("steps(0)", x.steps(0), 2);
        CHECKS.due("the text", Texts.read(x, 0), "x..");
    }
}
