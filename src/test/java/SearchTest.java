import java.util.function.Supplier;
import java.util.function.ToIntFunction;

/** Promises 19 and 20: find and end. */
public final class SearchTest {
    private static final Checks CHECKS = new Checks("SearchTest");

    public static void main(String[] args) {
        for (int store : Texts.STORES) {
            elementsOneBehindTheOther(store);
            leastPlaceFromAPlaceOn(store);
            dotsForAnyUnitBut10And13(store);
            starsForNoneOrMore(store);
            starsThatGiveBack(store);
            emptyMatches(store);
            fullTextsAndPatterns(store);
            patternsOfOneElementOrMore(store);
            clipsThatAreNoPattern(store);
            findInNoVersion(store);
            findAtNoPlace(store);
            findWithoutAMatch(store);
            endIsTheGreatestPlace(store);
            endBeforeAnyMatch(store);
            endByClipAndTextAsTheyWere(store);
            endOfTheLatestMatch(store);
            findLeavesTextAndClip(store);
        }
        CHECKS.close();
    }

    /** A search of a pattern in a text, and the end of its match; the end is -1 without one. */
    private static void due(int store, String text, String pattern, int from, int start,
            int end) {
        VersionedText x = Texts.holding(store, text);
        String call = "(0, " + from + ") of " + Texts.shown(pattern) + " in "
                + Texts.shown(text);
        CHECKS.due("find" + call, Texts.find(x, 0, from, pattern), start);
        CHECKS.due("end() behind find" + call, x.end(), end);
    }

    private static void elementsOneBehindTheOther(int store) {
        CHECKS.sentence("It MATCHES from place i to place j if the units between are what all "
                + "elements, one behind the other, stand for.");
        due(store, "abcabc", "a", 0, 0, 1);
        due(store, "abcabc", "bc", 0, 1, 3);
        due(store, "abcabc", "abcabc", 0, 0, 6);
        due(store, "abcabc", "abcabca", 0, -1, -1);
        due(store, "abcabc", "cb", 0, -1, -1);
        due(store, "aab", "ab", 0, 1, 3);
        due(store, "a\r\nb", "\r\n", 0, 1, 3);
        due(store, Texts.PICTURE, "\uDE00", 0, 1, 2);
        due(store, "a\\+[b", "\\+[", 0, 1, 4);
        due(store, "a\u0000\uFFFF", "\u0000\uFFFF", 0, 1, 3);
    }

    private static void leastPlaceFromAPlaceOn(int store) {
        CHECKS.sentence("19: the least place i from a place on from which the pattern matches");
        due(store, "abcabc", "bc", 1, 1, 3);
        due(store, "abcabc", "bc", 2, 4, 6);
        due(store, "abcabc", "bc", 4, 4, 6);
        due(store, "abcabc", "bc", 5, -1, -1);
        due(store, "abc", "c", 2, 2, 3);
        due(store, "abc", "c", 3, -1, -1);
        due(store, "abc", "c*", 3, 3, 3);
    }

    private static void dotsForAnyUnitBut10And13(int store) {
        CHECKS.sentence("The element . stands for any unit but 10 and 13");
        due(store, "abc", ".", 0, 0, 1);
        due(store, "abc", ".", 3, -1, -1);
        due(store, "abc", "...", 0, 0, 3);
        due(store, "abc", "....", 0, -1, -1);
        due(store, "\n\rabc", ".", 0, 2, 3);
        due(store, "a\nb", "a.b", 0, -1, -1);
        due(store, "a\rb", "a.b", 0, -1, -1);
        due(store, "\n\r\r\n", ".", 0, -1, -1);
        due(store, "\t\u000B\f\u000E\u0085\u2028", "......", 0, 0, 6);
        due(store, "\u0000\uFFFF\uD83D", "...", 0, 0, 3);
        due(store, "x.y", "y.", 0, -1, -1);
        due(store, "xy.", ".", 2, 2, 3);
    }

    private static void starsForNoneOrMore(int store) {
        CHECKS.sentence("with * for none or more of these in a row");
        due(store, "baaac", "a*", 0, 0, 0);
        due(store, "baaac", "a*", 1, 1, 4);
        due(store, "baaac", "ba*c", 0, 0, 5);
        due(store, "bc", "ba*c", 0, 0, 2);
        due(store, "bac", "ba*c", 0, 0, 3);
        due(store, "bdc", "ba*c", 0, -1, -1);
        due(store, "aabb", "a*b*", 0, 0, 4);
        due(store, "aabb\ncc", ".*", 0, 0, 4);
        due(store, "aabb\ncc", ".*", 4, 4, 4);
        due(store, "aabb\rcc", ".*", 5, 5, 7);
        due(store, "aabb\ncc", ".*\n.*", 0, 0, 7);
        due(store, "\n\n\na", "\n*a", 0, 0, 4);
        due(store, "\r\r", "\r*", 0, 0, 2);
    }

    /** A star that took all it can would not leave enough for the elements behind it. */
    private static void starsThatGiveBack(int store) {
        CHECKS.sentence("It MATCHES if the units between are what all elements stand for.");
        due(store, "aaa", "a*a", 0, 0, 3);
        due(store, "aaa", "a*aaa", 0, 0, 3);
        due(store, "aaa", "a*aaaa", 0, -1, -1);
        due(store, "a.b", "..*b", 0, 0, 3);
        due(store, "xaybazb", "a.*b", 0, 1, 7);
        due(store, "abab", ".*ab.*", 0, 0, 4);
        due(store, "aab", "a*a*b", 0, 0, 3);
        due(store, "aaaab", "a*ab*a*b", 0, 0, 5);
        due(store, "abcabd", "a.*.*b.", 0, 0, 6);
        due(store, "aabab", "a*b*.b", 0, 0, 5);
        due(store, "abbab", "ab*a*b", 0, 0, 5);
    }

    private static void emptyMatches(int store) {
        CHECKS.sentence("19: from a place on; with * for none");
        due(store, "", "a", 0, -1, -1);
        due(store, "", "a*", 0, 0, 0);
        due(store, "", ".*b*", 0, 0, 0);
        due(store, "xyz", "a*", 3, 3, 3);
        due(store, "xyz", "a*b*", 1, 1, 1);
        due(store, "\n", ".*", 0, 0, 0);
        due(store, "\n", ".*", 1, 1, 1);
        due(store, "s".repeat(160), "a*", 160, 160, 160);
    }

    private static void fullTextsAndPatterns(int store) {
        CHECKS.sentence("A TEXT of at most 160 UNITS; the CLIP of at most 24 units");
        String all = "a".repeat(159) + "b";
        due(store, all, "a*".repeat(12), 0, 0, 159);
        due(store, all, ".*".repeat(12), 0, 0, 160);
        due(store, all, ".*".repeat(11) + "c", 0, -1, -1);
        due(store, all, ".*".repeat(11) + "b", 0, 0, 160);
        due(store, all, ".".repeat(24), 136, 136, 160);
        due(store, all, ".".repeat(24), 137, -1, -1);
        due(store, all, "a".repeat(23) + "b", 0, 136, 160);
        due(store, all, "b", 159, 159, 160);
        due(store, all, "b", 160, -1, -1);
    }

    private static void patternsOfOneElementOrMore(int store) {
        CHECKS.sentence("The clip is a PATTERN when it is made of ELEMENTS, one or more: "
                + "a unit that is no * , with perhaps a * behind it.");
        due(store, "a*b", "a", 0, 0, 1);
        due(store, "a*b", "b*", 2, 2, 3);
        due(store, "a*b", "a*b*a*b*a*b*a*b*a*b*a*b*", 0, 0, 1);
        due(store, "a*b", ".", 1, 1, 2);
        due(store, "aa.", "a*.*", 0, 0, 3);
        due(store, "a*b)+", ")+", 0, 3, 5);
    }

    private static void clipsThatAreNoPattern(int store) {
        CHECKS.sentence("19: NONE when the clip is no pattern");
        String[] clips = {"", "*", "**", "*a", "**a", "a**", "a***", "a*b**", ".**", "*.",
            "a*".repeat(11) + "**", "*" + "a".repeat(23), "*".repeat(24), "ab***"};
        for (String clip : clips) {
            Supplier<VersionedText> made = Texts.then(Texts.made(store, "a*b**", "b"),
                    x -> {
                        x.find(0, 0);
                        Texts.clip(x, clip);
                    });
            CHECKS.isNone("find(0, 0) with " + Texts.shown(clip), made, x -> x.find(0, 0));
            CHECKS.isNone("find(0, 5) with " + Texts.shown(clip), made, x -> x.find(0, 5));
            due(store, "a*b**", clip, 0, -1, -1);
        }
        States.all(store).forEach((state, made) ->
                CHECKS.isNone("find(0, 0) with the empty clip, " + state,
                        Texts.then(made, VersionedText::scrap), x -> x.find(0, 0)));
    }

    /** Any object of all states, its clip being a pattern that matches at every place. */
    private static void isNoneThoughItMatches(int store, String call,
            ToIntFunction<VersionedText> asking) {
        States.all(store).forEach((state, made) ->
                CHECKS.isNone(call + ", " + state,
                        Texts.then(made, x -> Texts.clip(x, "z*")), asking));
    }

    private static void findInNoVersion(int store) {
        CHECKS.sentence("19: NONE when there is no such version");
        for (int version : Texts.beyond(4)) {
            isNoneThoughItMatches(store, "find(" + version + ", 0)", x -> x.find(version, 0));
        }
        for (int version : new int[] {2, 4}) {
            CHECKS.isNone("find(" + version + ", 0) of none",
                    Texts.then(() -> States.typing(store), x -> Texts.clip(x, "z*")),
                    x -> x.find(version, 0));
        }
    }

    private static void findAtNoPlace(int store) {
        CHECKS.sentence("19: NONE when there is no such place");
        for (int from : Texts.beyond(160)) {
            isNoneThoughItMatches(store, "find(0, " + from + ")", x -> x.find(0, from));
        }
        isNoneThoughItMatches(store, "find(0, length + 1)",
                x -> x.find(0, x.count(0, 0) + 1));
        CHECKS.isNone("find(1, 8), a place of the text alone",
                Texts.then(() -> States.typing(store), x -> Texts.clip(x, "z*")),
                x -> x.find(1, 8));
        VersionedText x = Texts.made(store, "abc", "z*").get();
        x.snapshot();
        x.remove(0, 2);
        CHECKS.due("find(1, 3), a place of the snapshot", x.find(1, 3), 3);
        CHECKS.due("find(0, 3), no place of the text", x.find(0, 3), -1);
    }

    private static void findWithoutAMatch(int store) {
        CHECKS.sentence("19: NONE when it does not match from any of these places.");
        States.all(store).forEach((state, made) -> {
            Supplier<VersionedText> seeking = Texts.then(made, x -> Texts.clip(x, "@.*"));
            CHECKS.isNone("find(0, 0), " + state, seeking, x -> x.find(0, 0));
            CHECKS.isNone("find(0, length), " + state, seeking,
                    x -> x.find(0, x.count(0, 0)));
        });
        CHECKS.isNone("find(0, 1) of what is before", Texts.made(store, "abb", "a"),
                x -> x.find(0, 1));
        CHECKS.isNone("find(0, 0) of more than the text has", Texts.made(store, "ab", "ab."),
                x -> x.find(0, 0));
    }

    private static void endIsTheGreatestPlace(int store) {
        CHECKS.sentence("20: The greatest place to which the pattern matched");
        due(store, "aaab", "a*", 0, 0, 3);
        due(store, "aaab", "a*b*", 0, 0, 4);
        due(store, "aaab", "a*", 3, 3, 3);
        due(store, "abcb", "a.*b*", 0, 0, 4);
        due(store, "ab\nb", "a.*b*", 0, 0, 2);
        due(store, "", ".*", 0, 0, 0);
        due(store, "s".repeat(160), "s*", 0, 0, 160);
    }

    private static void endBeforeAnyMatch(int store) {
        CHECKS.sentence("20: NONE when no find() found one yet.");
        CHECKS.isNone("end() of a new object", () -> new VersionedText(store),
                VersionedText::end);
        CHECKS.isNone("end() before find()", Texts.made(store, "abc", "a"),
                VersionedText::end);
        CHECKS.isNone("end() when find() found none", Texts.then(
                Texts.made(store, "abc", "z"), x -> {
                    CHECKS.due("find(0, 0)", x.find(0, 0), -1);
                    CHECKS.due("find(0, 4)", x.find(0, 4), -1);
                    CHECKS.due("find(3, 0)", x.find(3, 0), -1);
                }), VersionedText::end);
    }

    private static void endByClipAndTextAsTheyWere(int store) {
        CHECKS.sentence("20: by clip and text as they were then");
        VersionedText x = Texts.holding(store, "aaab");
        CHECKS.due("find(0, 1)", Texts.find(x, 0, 1, "a*b"), 1);
        CHECKS.due("end()", x.end(), 4);
        CHECKS.due("end() again", x.end(), 4);
        x.type('b');
        CHECKS.due("end() behind type()", x.end(), 4);
        x.scrap();
        CHECKS.due("end() behind scrap()", x.end(), 4);
        x.remove(0, 4);
        CHECKS.due("end() behind remove()", x.end(), 4);
        x.undo();
        CHECKS.due("end() behind undo()", x.end(), 4);
        x.snapshot();
        Texts.find(x, 1, 0, "aa");
        x.release(1);
        CHECKS.due("end() in a snapshot that went", x.end(), 2);
    }

    private static void endOfTheLatestMatch(int store) {
        CHECKS.sentence("20: from the place that the latest find() found "
                + "(one that found none does not count)");
        VersionedText x = Texts.holding(store, "aaab");
        x.snapshot();
        Texts.find(x, 0, 1, "a*b");
        CHECKS.due("find() of what is not there", Texts.find(x, 0, 0, "c"), -1);
        CHECKS.due("end() behind it", x.end(), 4);
        CHECKS.due("find() at no place", Texts.find(x, 0, 5, "c*"), -1);
        CHECKS.due("end() behind it", x.end(), 4);
        CHECKS.due("find() without a pattern", Texts.find(x, 0, 0, "**"), -1);
        CHECKS.due("end() behind it", x.end(), 4);
        CHECKS.due("find() in no version", Texts.find(x, 3, 0, "c*"), -1);
        CHECKS.due("end() behind it", x.end(), 4);
        CHECKS.due("a later find()", Texts.find(x, 0, 0, "a"), 0);
        CHECKS.due("end() of the later one", x.end(), 1);
        CHECKS.due("an empty match", Texts.find(x, 0, 0, "c*"), 0);
        CHECKS.due("end() of an empty match", x.end(), 0);
        CHECKS.due("a match in a snapshot", Texts.find(x, 1, 2, "ab"), 2);
        CHECKS.due("end() in the snapshot", x.end(), 4);
    }

    private static void findLeavesTextAndClip(int store) {
        CHECKS.sentence("19: SEARCH in a version");
        VersionedText x = Texts.holding(store, "abc");
        x.snapshot();
        x.remove(0, 2);
        CHECKS.due("find(0, 0) in the text", Texts.find(x, 0, 0, "c"), 0);
        CHECKS.due("find(1, 0) in the snapshot", x.find(1, 0), 2);
        CHECKS.due("the text", Texts.read(x, 0), "c");
        CHECKS.due("insert(0) of the clip", x.insert(0), true);
        CHECKS.due("the text", Texts.read(x, 0), "cc");
        States.all(store).forEach((state, made) -> {
            Supplier<VersionedText> found = Texts.then(made, y -> {
                Texts.clip(y, "z*");
                y.find(0, 0);
            });
            CHECKS.changesNothing("find() of the same again, " + state, found,
                    y -> y.find(0, 0));
        });
    }
}
