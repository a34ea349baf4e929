/** "What it is", and the terms that all promises share: text, clip, places, refused calls. */
public final class TermsTest {
    private static final Checks CHECKS = new Checks("TermsTest");

    public static void main(String[] args) {
        for (int store : Texts.STORES) {
            editsHoldFor512Calls(store);
            asksHoldFor512Calls(store);
            undoAndRedoHoldFor512Calls(store);
            textHas160UnitsAtMost(store);
            textTakesEveryChar(store);
            placesEndAtTheLength(store);
            placeIsBeforeItsUnit(store);
            clipHas24UnitsAtMost(store);
            falseOrNoneChangesNothing(store);
            askingChangesNothing(store);
        }
        storeShowsNowhere();
        CHECKS.close();
    }

    /** 511 calls: the clip is one a, which was put in and removed again 255 times. */
    private static VersionedText usedFor511Calls(int store) {
        VersionedText x = new VersionedText(store);
        x.type('a');
        for (int i = 0; i < 255; i++) {
            CHECKS.due("insert(0), time " + i, x.insert(0), true);
            CHECKS.due("remove(0, 1), time " + i, x.remove(0, 1), true);
        }
        return x;
    }

    private static void editsHoldFor512Calls(int store) {
        CHECKS.sentence("An object is used for at most 512 calls after it has been made.");
        CHECKS.due("call 512, type()", usedFor511Calls(store).type('b'), true);
        CHECKS.due("call 512, insert(0)", usedFor511Calls(store).insert(0), true);
        CHECKS.due("call 512, replace(0, 0)", usedFor511Calls(store).replace(0, 0), true);
        CHECKS.due("call 512, remove(0, 1)", usedFor511Calls(store).remove(0, 1), false);
        CHECKS.due("call 512, undo()", usedFor511Calls(store).undo(), true);
        CHECKS.due("call 512, redo()", usedFor511Calls(store).redo(), false);
        CHECKS.due("call 512, steps(0)", usedFor511Calls(store).steps(0), 8);
        CHECKS.due("call 512, guard(3)", usedFor511Calls(store).guard(3), true);
        CHECKS.due("call 512, count(0, 0)", usedFor511Calls(store).count(0, 0), 0);
        CHECKS.due("call 512, count(0, 2)", usedFor511Calls(store).count(0, 2), 1);
        CHECKS.due("call 512, same(0, 0)", usedFor511Calls(store).same(0, 0), true);
        CHECKS.due("call 512, end()", usedFor511Calls(store).end(), -1);
    }

    private static void asksHoldFor512Calls(int store) {
        CHECKS.sentence("An object is used for at most 512 calls after it has been made.");
        VersionedText kept = new VersionedText(store);
        for (int i = 0; i < 256; i++) {
            CHECKS.due("snapshot(), time " + i, kept.snapshot(), 1);
            CHECKS.due("release(1), time " + i, kept.release(1), true);
        }
        VersionedText searched = new VersionedText(store);
        Texts.clip(searched, "a*");
        for (int call = 4; call < 512; call += 2) {
            CHECKS.due("find(0, 0), call " + call, searched.find(0, 0), 0);
            CHECKS.due("end(), call " + (call + 1), searched.end(), 0);
        }
        CHECKS.due("find(0, 0), call 512", searched.find(0, 0), 0);
        VersionedText refused = new VersionedText(store);
        for (int call = 1; call <= 511; call++) {
            CHECKS.due("insert(0), call " + call, refused.insert(0), false);
        }
        CHECKS.due("type(), call 512", refused.type('a'), true);
    }

    private static void undoAndRedoHoldFor512Calls(int store) {
        CHECKS.sentence("An object is used for at most 512 calls after it has been made.");
        VersionedText x = new VersionedText(store);
        x.type('a');
        CHECKS.due("insert(0), call 2", x.insert(0), true);
        for (int call = 3; call < 511; call += 2) {
            CHECKS.due("undo(), call " + call, x.undo(), true);
            CHECKS.due("redo(), call " + (call + 1), x.redo(), true);
        }
        CHECKS.due("unit(0, 0), call 511", x.unit(0, 0), 'a');
        CHECKS.due("steps(0), call 512", x.steps(0), 1);
    }

    private static void storeShowsNowhere() {
        CHECKS.sentence("(How it is stored, in one of two ways, shows nowhere.)");
        States.all(1).forEach((state, made) ->
                CHECKS.isToldAlike(state + ": stored in either way", made,
                        States.all(0).get(state)));
    }

    private static void textHas160UnitsAtMost(int store) {
        CHECKS.sentence("A TEXT is a row of at most 160 UNITS.");
        VersionedText x = new VersionedText(store);
        x.type('s');
        for (int at = 0; at < 160; at++) {
            CHECKS.due("insert(" + at + ")", x.insert(at), true);
        }
        CHECKS.due("insert(160)", x.insert(160), false);
        CHECKS.due("count(0, 0)", x.count(0, 0), 160);
        CHECKS.due("unit(0, 159)", x.unit(0, 159), 's');
        CHECKS.due("unit(0, 160)", x.unit(0, 160), -1);
        CHECKS.due("snapshot()", x.snapshot(), 1);
        CHECKS.due("undo()", x.undo(), true);
        CHECKS.due("count(0, 0) before all of it", x.count(0, 0), 0);
        CHECKS.due("redo()", x.redo(), true);
        CHECKS.due("same(0, 1)", x.same(0, 1), true);
        CHECKS.due("count(1, 0)", x.count(1, 0), 160);
    }

    private static void textTakesEveryChar(int store) {
        CHECKS.sentence("UNITS, each a char");
        String units = "\u0000\u0001\u007F\u0080\u00FF\u0100\u7FFF\u8000\uD800\uDFFF\uFFFE\uFFFF";
        VersionedText x = Texts.holding(store, units);
        for (int i = 0; i < units.length(); i++) {
            CHECKS.due("unit(0, " + i + ")", x.unit(0, i), units.charAt(i));
        }
        x.snapshot();
        x.remove(0, units.length());
        x.undo();
        CHECKS.due("the text behind undo()", Texts.read(x, 0), units);
        CHECKS.due("the snapshot", Texts.read(x, 1), units);
    }

    private static void placesEndAtTheLength(int store) {
        CHECKS.sentence("its PLACES are 0 .. its length");
        for (String text : new String[] {"", "a", "abc", "s".repeat(160)}) {
            int length = text.length();
            VersionedText x = Texts.holding(store, text);
            Texts.clip(x, "z*");
            CHECKS.due("item(0, 0, 0) of " + length, x.item(0, 0, 0), 0);
            CHECKS.due("item(0, 0, length) of " + length, x.item(0, 0, length), length);
            CHECKS.due("find(0, length) of " + length, x.find(0, length), length);
            CHECKS.due("end() of " + length, x.end(), length);
            for (int place : Texts.beyond(length)) {
                CHECKS.due("item(0, 0, " + place + ") of " + length, x.item(0, 0, place), -1);
                CHECKS.due("find(0, " + place + ") of " + length, x.find(0, place), -1);
            }
        }
    }

    private static void placeIsBeforeItsUnit(int store) {
        CHECKS.sentence("place i being before unit i");
        String[] due = {"-abc", "a-bc", "ab-c", "abc-"};
        for (int at = 0; at <= 3; at++) {
            VersionedText x = Texts.holding(store, "abc");
            CHECKS.due("insert(" + at + ")", Texts.insert(x, at, "-"), true);
            CHECKS.due("the text", Texts.read(x, 0), due[at]);
        }
        VersionedText x = Texts.holding(store, "abc");
        CHECKS.due("remove(1, 2)", x.remove(1, 2), true);
        CHECKS.due("the text", Texts.read(x, 0), "ac");
    }

    private static void clipHas24UnitsAtMost(int store) {
        CHECKS.sentence("The CLIP is a row of at most 24 units.");
        VersionedText x = new VersionedText(store);
        Texts.clip(x, Texts.FULL_CLIP + "yz");
        CHECKS.due("insert(0)", x.insert(0), true);
        CHECKS.due("the text", Texts.read(x, 0), Texts.FULL_CLIP);
        CHECKS.due("insert(24)", x.insert(24), true);
        CHECKS.due("the text", Texts.read(x, 0), Texts.FULL_CLIP + Texts.FULL_CLIP);
    }

    /** The answers that are no refusals; those of refused calls stand with their promises. */
    private static void falseOrNoneChangesNothing(int store) {
        CHECKS.sentence("A call that answers NONE or false changes nothing.");
        CHECKS.isFalse("same(0, 3) of other units", () -> States.typing(store),
                x -> x.same(0, 3));
        CHECKS.isFalse("same(1, 0) of other units", () -> States.someUndone(store),
                x -> x.same(1, 0));
        CHECKS.isNone("find(0, 8) of what is before", () -> States.typing(store),
                x -> x.find(0, 9));
        CHECKS.isNone("find(1, 0) of what is not there", () -> States.typing(store),
                x -> x.find(1, 0));
        CHECKS.isNone("end() before find()", () -> States.someUndone(store), VersionedText::end);
    }

    private static void askingChangesNothing(int store) {
        CHECKS.sentence("Nothing is promised beyond the answers and state changes described.");
        States.all(store).forEach((state, made) -> {
            CHECKS.changesNothing("steps(), " + state, made, x -> {
                x.steps(0);
                x.steps(1);
            });
            CHECKS.changesNothing("unit(0, 0), " + state, made, x -> x.unit(0, 0));
            CHECKS.changesNothing("same(0, 0), " + state, made, x -> x.same(0, 0));
            CHECKS.changesNothing("end(), " + state, made, VersionedText::end);
            for (int metric = 0; metric <= 3; metric++) {
                int asked = metric;
                CHECKS.changesNothing("metric " + asked + ", " + state, made, x -> {
                    int number = x.count(0, asked);
                    x.item(0, asked, x.place(0, asked, number));
                });
            }
        });
    }
}
