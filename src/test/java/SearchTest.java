/** Promises 19 and 20: find and end. */
public final class SearchTest {
    private static final Checks CHECKS = new Checks("SearchTest");

    public static void main(String[] args) {
        for (int store : Checks.STORES) {
            plainUnits(store);
            dots(store);
            stars(store);
            starsThatGiveBack(store);
            emptyMatches(store);
            noPatterns(store);
            versionsAndPlaces(store);
            promise20End(store);
            fullTexts(store);
        }
        CHECKS.close();
    }

    private static void due(int store, String text, String pattern, int from, int start, int end) {
        VersionedText x = Checks.holding(store, text);
        String call = "(0, " + from + ") of " + Checks.shown(pattern) + " in "
                + Checks.shown(text);
        CHECKS.due("find" + call, Checks.find(x, 0, from, pattern), start);
        CHECKS.due("end() behind find" + call, x.end(), end);
    }

    private static void plainUnits(int store) {
        due(store, "abcabc", "a", 0, 0, 1);
        due(store, "abcabc", "bc", 0, 1, 3);
        due(store, "abcabc", "bc", 1, 1, 3);
        due(store, "abcabc", "bc", 2, 4, 6);
        due(store, "abcabc", "bc", 5, -1, -1);
        due(store, "abcabc", "abcabc", 0, 0, 6);
        due(store, "abcabc", "abcabca", 0, -1, -1);
        due(store, "abcabc", "cb", 0, -1, -1);
        due(store, "aab", "ab", 0, 1, 3);
        due(store, "a\r\nb", "\r\n", 0, 1, 3);
        due(store, "\uD83D\uDE00", "\uDE00", 0, 1, 2);
        due(store, "a\\+[b", "\\+[", 0, 1, 4);
        due(store, "", "a", 0, -1, -1);
    }

    private static void dots(int store) {
        due(store, "abc", ".", 0, 0, 1);
        due(store, "abc", ".", 3, -1, -1);
        due(store, "abc", "...", 0, 0, 3);
        due(store, "abc", "....", 0, -1, -1);
        due(store, "\n\rabc", ".", 0, 2, 3);
        due(store, "a\nb", "a.b", 0, -1, -1);
        due(store, "a\rb", "a.b", 0, -1, -1);
        due(store, "a\u0085b\u2028", "a.b.", 0, 0, 4);
        due(store, "\u0000\uFFFF\uD83D", "...", 0, 0, 3);
        due(store, "x.y", "y.", 0, -1, -1);
    }

    private static void stars(int store) {
        due(store, "baaac", "a*", 0, 0, 0);
        due(store, "baaac", "a*", 1, 1, 4);
        due(store, "baaac", "ba*c", 0, 0, 5);
        due(store, "bc", "ba*c", 0, 0, 2);
        due(store, "bdc", "ba*c", 0, -1, -1);
        due(store, "aabb", "a*b*", 0, 0, 4);
        due(store, "aabb\ncc", ".*", 0, 0, 4);
        due(store, "aabb\ncc", ".*", 4, 4, 4);
        due(store, "aabb\ncc", ".*\n.*", 0, 0, 7);
        due(store, "\n\n\na", "\n*a", 0, 0, 4);
        due(store, "a.b", "..*b", 0, 0, 3);
    }

    /** A star that took all it can would not leave enough for the elements behind it. */
    private static void starsThatGiveBack(int store) {
        due(store, "aaa", "a*a", 0, 0, 3);
        due(store, "aaa", "a*aaa", 0, 0, 3);
        due(store, "aaa", "a*aaaa", 0, -1, -1);
        due(store, "xaybazb", "a.*b", 0, 1, 7);
        due(store, "abab", ".*ab.*", 0, 0, 4);
        due(store, "aab", "a*a*b", 0, 0, 3);
        due(store, "aaaab", "a*ab*a*b", 0, 0, 5);
        due(store, "abcabd", "a.*.*b.", 0, 0, 6);
        due(store, "aabab", "a*b*.b", 0, 0, 5);
        due(store, "abbab", "ab*a*b", 0, 0, 5);
    }

    private static void emptyMatches(int store) {
        due(store, "", "a*", 0, 0, 0);
        due(store, "", ".*b*", 0, 0, 0);
        due(store, "xyz", "a*", 3, 3, 3);
        due(store, "xyz", "a*b*", 1, 1, 1);
        due(store, "\n", ".*", 0, 0, 0);
        due(store, "\n", ".*", 1, 1, 1);
    }

    private static void noPatterns(int store) {
        for (String clip : new String[] {"", "*", "**", "*a", "a**", "a*b**", "**a", "ab***",
            ".**", "a*****"}) {
            due(store, "a*b**", clip, 0, -1, -1);
        }
        due(store, "a*b", "a*b*a*b*a*b*a*b*a*b*a*b*", 0, 0, 1);
        due(store, "aa.", "a*.*", 0, 0, 3);
    }

    private static void versionsAndPlaces(int store) {
        VersionedText x = Checks.holding(store, "abc");
        CHECKS.due("snapshot()", x.snapshot(), 1);
        x.remove(0, 2);
        CHECKS.due("find(0, 0) in the text", Checks.find(x, 0, 0, "c"), 0);
        CHECKS.due("find(1, 0) in the snapshot", x.find(1, 0), 2);
        CHECKS.due("end()", x.end(), 3);
        CHECKS.due("find(1, 3), its end", x.find(1, 3), -1);
        x.type('*');
        CHECKS.due("find(1, 3), its end", x.find(1, 3), 3);
        for (int from : new int[] {-1, 4, Integer.MIN_VALUE, Integer.MAX_VALUE}) {
            CHECKS.due("find(1, " + from + ")", x.find(1, from), -1);
        }
        CHECKS.due("find(0, 2) past the text", x.find(0, 2), -1);
        for (int version : new int[] {-1, 2, 4, 5, Integer.MIN_VALUE, Integer.MAX_VALUE}) {
            CHECKS.due("find(" + version + ", 0)", x.find(version, 0), -1);
        }
        CHECKS.due("find() changes no text", Checks.read(x, 0), "c");
        CHECKS.due("find() leaves the clip", x.insert(0), true);
        CHECKS.due("the clip", Checks.read(x, 0), "c*c");
    }

    private static void promise20End(int store) {
        VersionedText x = Checks.holding(store, "aaab");
        CHECKS.due("end() before find()", x.end(), -1);
        CHECKS.due("find() of none", Checks.find(x, 0, 0, "c"), -1);
        CHECKS.due("end() behind find() of none", x.end(), -1);
        CHECKS.due("find()", Checks.find(x, 0, 1, "a*b"), 1);
        CHECKS.due("end()", x.end(), 4);
        CHECKS.due("end() again", x.end(), 4);
        x.scrap();
        CHECKS.due("end() goes by the clip as it was", x.end(), 4);
        x.remove(0, 4);
        CHECKS.due("end() goes by the text as it was", x.end(), 4);
        CHECKS.due("find() of none", Checks.find(x, 0, 0, "c"), -1);
        CHECKS.due("find() at no place", Checks.find(x, 0, 1, "c*"), -1);
        CHECKS.due("find() without a pattern", Checks.find(x, 0, 0, "**"), -1);
        CHECKS.due("find() in no version", Checks.find(x, 3, 0, "c*"), -1);
        CHECKS.due("end() when the latest found none", x.end(), 4);
        x.undo();
        CHECKS.due("end() behind undo()", x.end(), 4);
        CHECKS.due("a later find()", Checks.find(x, 0, 0, "a"), 0);
        CHECKS.due("end() of the later one", x.end(), 1);
        CHECKS.due("an empty match", Checks.find(x, 0, 0, "c*"), 0);
        CHECKS.due("end() of an empty match", x.end(), 0);
    }

    private static void fullTexts(int store) {
        String all = "a".repeat(159) + "b";
        due(store, all, "a*".repeat(12), 0, 0, 159);
        due(store, all, ".*".repeat(11) + "c", 0, -1, -1);
        due(store, all, ".*".repeat(11) + "b", 0, 0, 160);
        due(store, all, "a".repeat(23) + "b", 0, 136, 160);
        due(store, all, "b", 160, -1, -1);
    }
}
