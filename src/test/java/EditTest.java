import java.util.function.Supplier;

/** Promises 1 to 6: a new object, the clip and the edits. The guard stands in GuardTest. */
public final class EditTest {
    private static final Checks CHECKS = new Checks("EditTest");

    public static void main(String[] args) {
        newObjectIsEmpty();
        anyNumberIsAStore();
        for (int store : Texts.STORES) {
            typeAppends(store);
            typeIsFalseWith24(store);
            scrapEmptiesTheClip(store);
            insertPutsIn(store);
            insertLeavesTheClip(store);
            insertAtNoPlace(store);
            insertOfTheEmptyClip(store);
            insertPast160(store);
            removeTakesOut(store);
            removeAtNoPlaces(store);
            removeFromNotBefore(store);
            replacePutsInForWhatGoes(store);
            replaceFromAPlaceToTheSame(store);
            replaceAtNoPlaces(store);
            replaceFromBehind(store);
            replaceByTheEmptyClip(store);
            replacePast160(store);
        }
        CHECKS.close();
    }

    private static void newObjectIsEmpty() {
        CHECKS.sentence("1: An empty text and an empty clip");
        for (int store : Texts.STORES) {
            VersionedText x = new VersionedText(store);
            CHECKS.due("count(0, 0)", x.count(0, 0), 0);
            CHECKS.due("unit(0, 0)", x.unit(0, 0), -1);
            CHECKS.due("insert(0) of the clip", x.insert(0), false);
            CHECKS.due("find(0, 0) of the clip", x.find(0, 0), -1);
            CHECKS.due("steps(0)", x.steps(0), 0);
            CHECKS.due("steps(1)", x.steps(1), 0);
            VersionedText other = Texts.holding(store, "abc");
            CHECKS.due("two objects share nothing", Texts.read(x, 0), "");
            CHECKS.due("the other one", Texts.read(other, 0), "abc");
        }
    }

    private static void anyNumberIsAStore() {
        CHECKS.sentence("1: store tells in which way it is stored "
                + "(1: the one, any other number: the other one)");
        for (int store : new int[] {0, 2, 3, -1, 257, 65537, Integer.MIN_VALUE,
            Integer.MIN_VALUE + 1, Integer.MAX_VALUE}) {
            CHECKS.isToldAlike("new VersionedText(" + store + ")",
                    () -> States.typing(store), () -> States.typing(1));
            CHECKS.isToldAlike("new VersionedText(" + store + ")",
                    () -> States.manySteps(store), () -> States.manySteps(1));
        }
    }

    private static void typeAppends(int store) {
        CHECKS.sentence("2: Appends a unit to the clip");
        VersionedText x = new VersionedText(store);
        CHECKS.due("type() with none", x.type('\u0000'), true);
        CHECKS.due("type() with one", x.type('\uFFFF'), true);
        CHECKS.due("insert(0)", x.insert(0), true);
        CHECKS.due("type() behind an edit", x.type('z'), true);
        CHECKS.due("insert(2)", x.insert(2), true);
        CHECKS.due("the text", Texts.read(x, 0), "\u0000\uFFFF\u0000\uFFFFz");
    }

    private static void typeIsFalseWith24(int store) {
        CHECKS.sentence("2: false when it has 24.");
        VersionedText x = new VersionedText(store);
        for (int i = 0; i < 24; i++) {
            CHECKS.due("type() with " + i, x.type(Texts.FULL_CLIP.charAt(i)), true);
        }
        CHECKS.due("type() with 24", x.type('!'), false);
        CHECKS.isFalse("type() with 24", Texts.made(store, "abc", Texts.FULL_CLIP),
                full -> full.type('!'));
        CHECKS.isFalse("type() with 24 and a full text", () -> States.full(store),
                full -> full.type('!'));
    }

    private static void scrapEmptiesTheClip(int store) {
        CHECKS.sentence("3: The clip becomes empty.");
        for (String clip : new String[] {"", "a", Texts.FULL_CLIP}) {
            CHECKS.isToldAlike("scrap() of " + clip.length(),
                    Texts.then(Texts.made(store, "ab", clip), VersionedText::scrap),
                    () -> Texts.holding(store, "ab"));
        }
        VersionedText x = Texts.holding(store, "ab");
        Texts.clip(x, Texts.FULL_CLIP);
        x.scrap();
        CHECKS.due("type() behind scrap()", x.type('x'), true);
        CHECKS.due("insert(1)", x.insert(1), true);
        CHECKS.due("the text", Texts.read(x, 0), "axb");
    }

    private static void insertPutsIn(int store) {
        CHECKS.sentence("4: Edits: the clip is put in at a place");
        VersionedText x = new VersionedText(store);
        CHECKS.due("insert in the empty text", Texts.insert(x, 0, "mn"), true);
        CHECKS.due("insert at the beginning", Texts.insert(x, 0, "abc"), true);
        CHECKS.due("insert at the end", Texts.insert(x, 5, "yz"), true);
        CHECKS.due("insert between", Texts.insert(x, 4, "--"), true);
        CHECKS.due("the text", Texts.read(x, 0), "abcm--nyz");
    }

    private static void insertLeavesTheClip(int store) {
        CHECKS.sentence("4: (it stays in the clip)");
        CHECKS.isToldAlike("insert(1), then the clip",
                Texts.then(Texts.made(store, "ab", "xyz"), x -> x.insert(1)),
                Texts.then(Texts.made(store, "ab", "xyz"), x -> Texts.insert(x, 1, "xyz")));
        VersionedText x = new VersionedText(store);
        Texts.insert(x, 0, "12");
        CHECKS.due("insert(1) of it again", x.insert(1), true);
        CHECKS.due("the text", Texts.read(x, 0), "1122");
    }

    private static void insertAtNoPlace(int store) {
        CHECKS.sentence("4: False when there is no such place");
        for (int at : Texts.beyond(160)) {
            CHECKS.isFalseInEveryState(store, "insert(" + at + ")", x -> x.insert(at));
        }
        CHECKS.isFalseInEveryState(store, "insert(length + 1)",
                x -> x.insert(x.count(0, 0) + 1));
        CHECKS.isFalse("insert(1) in the empty text", Texts.made(store, "", "a"),
                x -> x.insert(1));
        CHECKS.isFalse("insert(4) in three units", Texts.made(store, "abc", "a"),
                x -> x.insert(4));
    }

    private static void insertOfTheEmptyClip(int store) {
        CHECKS.sentence("4: False when the clip is empty");
        States.all(store).forEach((state, made) -> {
            Supplier<VersionedText> scrapped = Texts.then(made, VersionedText::scrap);
            CHECKS.isFalse("insert(0), " + state, scrapped, x -> x.insert(0));
            CHECKS.isFalse("insert(length), " + state, scrapped,
                    x -> x.insert(x.count(0, 0)));
        });
    }

    private static void insertPast160(int store) {
        CHECKS.sentence("4: False when the text would be longer than 160");
        for (int units : new int[] {1, 2, 23, 24}) {
            String clip = Texts.FULL_CLIP.substring(0, units);
            String fits = "s".repeat(160 - units);
            for (int at : new int[] {0, 77, 160 - units}) {
                String call = "insert(" + at + ") of " + units;
                VersionedText x = Texts.made(store, fits, clip).get();
                CHECKS.due(call + " to 160", x.insert(at), true);
                CHECKS.due("the length", x.count(0, 0), 160);
                CHECKS.isFalse(call + " to 161", Texts.made(store, fits + "s", clip),
                        more -> more.insert(at));
            }
        }
        CHECKS.isFalse("insert(160) to 184", () -> States.full(store), x -> x.insert(160));
    }

    private static void removeTakesOut(int store) {
        CHECKS.sentence("5: Edits: the units from a place to another one go.");
        VersionedText x = Texts.holding(store, "abcdefgh");
        CHECKS.due("remove(0, 1)", x.remove(0, 1), true);
        CHECKS.due("behind remove(0, 1)", Texts.read(x, 0), "bcdefgh");
        CHECKS.due("remove(5, 7)", x.remove(5, 7), true);
        CHECKS.due("behind remove(5, 7)", Texts.read(x, 0), "bcdef");
        CHECKS.due("remove(1, 3)", x.remove(1, 3), true);
        CHECKS.due("behind remove(1, 3)", Texts.read(x, 0), "bef");
        CHECKS.due("remove(0, 3)", x.remove(0, 3), true);
        CHECKS.due("behind remove(0, 3)", Texts.read(x, 0), "");
        CHECKS.due("each is a step", x.steps(0), 5);
        VersionedText full = Texts.holding(store, "s".repeat(160));
        CHECKS.due("remove(0, 160)", full.remove(0, 160), true);
        CHECKS.due("the length", full.count(0, 0), 0);
    }

    private static void removeAtNoPlaces(int store) {
        CHECKS.sentence("5: False when there are no such places");
        for (int place : Texts.beyond(160)) {
            CHECKS.isFalseInEveryState(store, "remove(0, " + place + ")",
                    x -> x.remove(0, place));
            CHECKS.isFalseInEveryState(store, "remove(" + place + ", length)",
                    x -> x.remove(place, x.count(0, 0)));
        }
        CHECKS.isFalse("remove(0, 1) of the empty text", Texts.made(store, "", "a"),
                x -> x.remove(0, 1));
        int[][] ranges = {{0, 5}, {4, 5}, {5, 6}, {-1, 0}, {-1, 4}, {-1, 5}, {-2, -1},
            {Integer.MIN_VALUE, Integer.MAX_VALUE}, {Integer.MIN_VALUE, Integer.MIN_VALUE + 1},
            {Integer.MAX_VALUE - 1, Integer.MAX_VALUE}};
        for (int[] range : ranges) {
            CHECKS.isFalse("remove(" + range[0] + ", " + range[1] + ") of four units",
                    Texts.made(store, "abcd", "z"), x -> x.remove(range[0], range[1]));
        }
    }

    private static void removeFromNotBefore(int store) {
        CHECKS.sentence("5: False when the first is not before the second");
        CHECKS.isFalseInEveryState(store, "remove(0, 0)", x -> x.remove(0, 0));
        CHECKS.isFalseInEveryState(store, "remove(length, length)",
                x -> x.remove(x.count(0, 0), x.count(0, 0)));
        CHECKS.isFalseInEveryState(store, "remove(length, 0)",
                x -> x.remove(x.count(0, 0), 0));
        int[][] ranges = {{2, 2}, {2, 1}, {4, 3}, {1, 0}, {5, 4}, {0, -1},
            {Integer.MAX_VALUE, Integer.MIN_VALUE}};
        for (int[] range : ranges) {
            CHECKS.isFalse("remove(" + range[0] + ", " + range[1] + ") of four units",
                    Texts.made(store, "abcd", "z"), x -> x.remove(range[0], range[1]));
        }
    }

    private static void replacePutsInForWhatGoes(int store) {
        CHECKS.sentence("6: Edits: the units from a place to another one "
                + "are replaced by the clip.");
        VersionedText x = Texts.holding(store, "abcdef");
        CHECKS.due("replace by more", Texts.replace(x, 1, 2, "XYZ"), true);
        CHECKS.due("the text", Texts.read(x, 0), "aXYZcdef");
        CHECKS.due("replace by less", Texts.replace(x, 4, 8, "-"), true);
        CHECKS.due("the text", Texts.read(x, 0), "aXYZ-");
        CHECKS.due("replace all by the same", Texts.replace(x, 0, 5, "aXYZ-"), true);
        CHECKS.due("the text", Texts.read(x, 0), "aXYZ-");
        CHECKS.due("each is a step, if it changes nothing too", x.steps(0), 4);
        CHECKS.due("the clip stayed", x.replace(1, 5), true);
        CHECKS.due("the text", Texts.read(x, 0), "aaXYZ-");
    }

    private static void replaceFromAPlaceToTheSame(int store) {
        CHECKS.sentence("6: from a place to another one (which may be the same)");
        VersionedText x = new VersionedText(store);
        CHECKS.due("replace(0, 0) in the empty text", Texts.replace(x, 0, 0, "ab"), true);
        CHECKS.due("the text", Texts.read(x, 0), "ab");
        CHECKS.due("replace(0, 0)", Texts.replace(x, 0, 0, "1"), true);
        CHECKS.due("replace(2, 2)", Texts.replace(x, 2, 2, "2"), true);
        CHECKS.due("replace(4, 4), its end", Texts.replace(x, 4, 4, "3"), true);
        CHECKS.due("the text", Texts.read(x, 0), "1a2b3");
    }

    private static void replaceAtNoPlaces(int store) {
        CHECKS.sentence("6: False when there are no such places");
        for (int place : Texts.beyond(160)) {
            CHECKS.isFalseInEveryState(store, "replace(0, " + place + ")",
                    x -> x.replace(0, place));
            CHECKS.isFalseInEveryState(store, "replace(" + place + ", length)",
                    x -> x.replace(place, x.count(0, 0)));
            CHECKS.isFalseInEveryState(store, "replace(" + place + ", the same)",
                    x -> x.replace(place, place));
        }
        int[][] ranges = {{0, 5}, {4, 5}, {5, 5}, {5, 6}, {-1, -1}, {-1, 0}, {-1, 4}, {-1, 5},
            {Integer.MIN_VALUE, Integer.MAX_VALUE}, {Integer.MIN_VALUE, Integer.MIN_VALUE + 1},
            {Integer.MAX_VALUE - 1, Integer.MAX_VALUE}};
        for (int[] range : ranges) {
            CHECKS.isFalse("replace(" + range[0] + ", " + range[1] + ") in four units",
                    Texts.made(store, "abcd", "z"), x -> x.replace(range[0], range[1]));
        }
    }

    private static void replaceFromBehind(int store) {
        CHECKS.sentence("6: False when the first is behind the second");
        int[][] ranges = {{1, 0}, {2, 1}, {4, 3}, {4, 0}, {5, 4}, {0, -1},
            {Integer.MAX_VALUE, Integer.MIN_VALUE}};
        for (int[] range : ranges) {
            CHECKS.isFalse("replace(" + range[0] + ", " + range[1] + ") in four units",
                    Texts.made(store, "abcd", "z"), x -> x.replace(range[0], range[1]));
        }
    }

    private static void replaceByTheEmptyClip(int store) {
        CHECKS.sentence("6: False when the clip is empty");
        States.all(store).forEach((state, made) -> {
            Supplier<VersionedText> scrapped = Texts.then(made, VersionedText::scrap);
            CHECKS.isFalse("replace(0, 0), " + state, scrapped, x -> x.replace(0, 0));
            CHECKS.isFalse("replace(0, length), " + state, scrapped,
                    x -> x.replace(0, x.count(0, 0)));
        });
    }

    private static void replacePast160(int store) {
        CHECKS.sentence("6: False when the text would be longer than 160");
        String full = "s".repeat(160);
        for (int[] range : new int[][] {{0, 2}, {9, 11}, {158, 160}}) {
            String call = "replace(" + range[0] + ", " + range[1] + ")";
            VersionedText x = Texts.made(store, full, "xy").get();
            CHECKS.due(call + " by two, to 160", x.replace(range[0], range[1]), true);
            CHECKS.due("the length", x.count(0, 0), 160);
            CHECKS.isFalse(call + " by three, to 161", Texts.made(store, full, "xyz"),
                    more -> more.replace(range[0], range[1]));
        }
        CHECKS.isFalse("replace(160, 160) by one, to 161", Texts.made(store, full, "x"),
                x -> x.replace(160, 160));
        VersionedText x = Texts.made(store, full, "x").get();
        CHECKS.due("replace(0, 160) of all by one", x.replace(0, 160), true);
        CHECKS.due("the text", Texts.read(x, 0), "x");
        VersionedText less = Texts.made(store, "s".repeat(137), Texts.FULL_CLIP).get();
        CHECKS.due("replace(3, 4) by 24, to 160", less.replace(3, 4), true);
        CHECKS.isFalse("replace(3, 3) by 24, to 161",
                Texts.made(store, "s".repeat(137), Texts.FULL_CLIP), y -> y.replace(3, 3));
    }
}
