/** The terms POINTS, LINES, CLUSTERS and METRICS: where the items of each metric begin. */
public final class ItemsTest {
    private static final String MARK = Texts.MARK;
    private static final String JOINER = Texts.JOINER;
    private static final String PICTURE = Texts.PICTURE;
    private static final String FLAG = Texts.FLAG;

    private static final Checks CHECKS = new Checks("ItemsTest");

    public static void main(String[] args) {
        for (int store : Texts.STORES) {
            Measures items = new Measures(CHECKS, store);
            pointsOfTwoUnits(items);
            pointsOfTwoUnitsAtTheBounds(items);
            pointsByThemselves(items);
            codesOfPoints(items);
            breaks(items);
            linesAreOneMoreThanBreaks(items);
            fullTextsOfBreaks(items);
            clustersAreCutBetweenPoints(items);
            clusterOf13And10(items);
            marksAndJoiners(items);
            marksBehindControls(items);
            marksAtTheBounds(items);
            joinedPictures(items);
            picturesBehindMarks(items);
            picturesAtTheBounds(items);
            flagsInPairs(items);
            flagsWithAGap(items);
            flagsAtTheBounds(items);
            emptyTexts(items);
            itemsGoOnToTheNext(items);
        }
        CHECKS.close();
    }

    private static void pointsOfTwoUnits(Measures items) {
        CHECKS.sentence("a unit 55296 .. 56319 with one of 56320 .. 57343 directly behind it "
                + "is one point of two units");
        items.due(1, "a" + FLAG + "b", 0, 1, 3);
        items.due(1, FLAG + FLAG, 0, 2);
        items.due(1, FLAG, 0);
    }

    private static void pointsOfTwoUnitsAtTheBounds(Measures items) {
        CHECKS.sentence("a unit 55296 .. 56319 with one of 56320 .. 57343 directly behind it "
                + "is one point of two units");
        for (int first : new int[] {55296, 55297, 56318, 56319}) {
            for (int second : new int[] {56320, 56321, 57342, 57343}) {
                items.due(1, Texts.point(first, second), 0);
            }
            items.due(1, Texts.point(first, 56319), 0, 1);
            items.due(1, Texts.point(first, 57344), 0, 1);
        }
        for (int second : new int[] {56320, 57343}) {
            items.due(1, Texts.point(55295, second), 0, 1);
            items.due(1, Texts.point(56320, second), 0, 1);
            items.due(1, Texts.point(57344, second), 0, 1);
        }
    }

    private static void pointsByThemselves(Measures items) {
        CHECKS.sentence("any other unit is a point by itself");
        items.due(1, "\uD800", 0);
        items.due(1, "\uDC00", 0);
        items.due(1, "\uDC00\uD800", 0, 1);
        items.due(1, "\uD800\uD800\uDC00\uDC00", 0, 1, 3);
        items.due(1, "\uD800a\uDC00", 0, 1, 2);
        items.due(1, "\r\ne" + MARK, 0, 1, 2, 3);
        items.due(1, "\u0000\uFFFF", 0, 1);
    }

    /** A code shows by the clusters: only a flag's joins the flag before it. */
    private static void codesOfPoints(Measures items) {
        CHECKS.sentence("its CODE being 65536 + 1024 * (first - 55296) + second - 56320; "
                + "any other unit: its code being the unit");
        items.due(3, FLAG + Texts.point(55356, 56806), 0);
        items.due(3, FLAG + Texts.point(55355, 56806), 0, 2);
        items.due(3, FLAG + Texts.point(55357, 56806), 0, 2);
        items.due(3, FLAG + "\uDDE6", 0, 2);
        items.due(3, FLAG + "\uD83C", 0, 2);
        for (int[] halves : new int[][] {{55356, 57343}, {55357, 56320}, {55357, 57343},
            {55358, 56320}}) {
            items.due(3, PICTURE + JOINER + Texts.point(halves[0], halves[1]), 0);
        }
        items.due(3, "e" + MARK + "\uDC00", 0, 2);
        items.due(3, FLAG + "\uD846\uB5E6" + "a", 0, 2, 3, 4);
        items.due(3, Texts.point(55296, 56320) + MARK, 0);
        items.due(3, "\uD800" + MARK, 0);
        items.due(3, "\uDC00" + MARK, 0);
    }

    private static void breaks(Measures items) {
        CHECKS.sentence("a BREAK is a unit 13 with a 10 directly behind it "
                + "(two units together), or any other unit 13 or 10.");
        items.due(2, "a\nb", 0, 2);
        items.due(2, "a\rb", 0, 2);
        items.due(2, "a\r\nb", 0, 3);
        items.due(2, "a\n\rb", 0, 2, 3);
        items.due(2, "a\rb\nc", 0, 2, 4);
        items.due(2, "\r\r\n\n", 0, 1, 3, 4);
        items.due(2, "\r\n\r\n", 0, 2, 4);
        items.due(2, "\n\n\r\r", 0, 1, 2, 3, 4);
        items.due(2, "\r" + MARK + "\n", 0, 1, 3);
        items.due(2, "\t\u000B\u000C\u000E\u0085\u2028\u2029", 0);
    }

    private static void linesAreOneMoreThanBreaks(Measures items) {
        CHECKS.sentence("Line 0 begins at place 0, and the next one behind each break; "
                + "there is one line more than breaks (the last one may be empty).");
        items.due(2, "", 0);
        items.due(2, "abc", 0);
        items.due(2, "\n", 0, 1);
        items.due(2, "\r", 0, 1);
        items.due(2, "\r\n", 0, 2);
        items.due(2, "ab\n\ncd\n", 0, 3, 4, 7);
        items.due(2, "ab\r", 0, 3);
        items.due(2, "ab\r\n", 0, 4);
    }

    private static void fullTextsOfBreaks(Measures items) {
        CHECKS.sentence("there is one line more than breaks");
        int[] everyPlace = new int[161];
        int[] everyOther = new int[81];
        for (int i = 0; i <= 160; i++) {
            everyPlace[i] = i;
            everyOther[i / 2] = i / 2 * 2;
        }
        items.due(2, "\n".repeat(160), everyPlace);
        items.due(2, "\r".repeat(160), everyPlace);
        items.due(2, "\r\n".repeat(80), everyOther);
    }

    private static void clustersAreCutBetweenPoints(Measures items) {
        CHECKS.sentence("Between two neighbouring points a and b the text is cut into clusters");
        items.due(3, "abc", 0, 1, 2);
        items.due(3, "a", 0);
        items.due(3, PICTURE + "a", 0, 2);
        items.due(3, PICTURE + PICTURE, 0, 2);
        items.due(3, "\uD83C\uD83C", 0, 1);
    }

    private static void clusterOf13And10(Measures items) {
        CHECKS.sentence("a is 13 and b is 10.");
        items.due(3, "\r\n", 0);
        items.due(3, "\n\r", 0, 1);
        items.due(3, "\n\n", 0, 1);
        items.due(3, "\r\r", 0, 1);
        items.due(3, "\r\r\n\n", 0, 1, 3);
        items.due(3, "\r\u000B", 0, 1);
        items.due(3, "\f\n", 0, 1);
        items.due(3, "\u000E\n", 0, 1);
        items.due(3, "\r\t", 0, 1);
        items.due(3, "a\n", 0, 1);
        items.due(3, "\ra", 0, 1);
    }

    private static void marksAndJoiners(Measures items) {
        CHECKS.sentence("a is none of 0 .. 31 and b is a MARK (768 .. 879) "
                + "or the JOINER (8205).");
        items.due(3, "e" + MARK, 0);
        items.due(3, "e" + MARK + MARK + JOINER + MARK + "f", 0, 5);
        items.due(3, "e" + JOINER + "f", 0, 2);
        items.due(3, MARK, 0);
        items.due(3, JOINER, 0);
        items.due(3, MARK + MARK + "a", 0, 2);
        items.due(3, JOINER + MARK, 0);
        items.due(3, FLAG + MARK, 0);
        items.due(3, PICTURE + JOINER, 0);
        items.due(3, "a" + MARK.repeat(159), 0);
    }

    private static void marksBehindControls(Measures items) {
        CHECKS.sentence("a is none of 0 .. 31");
        for (String joined : new String[] {MARK, JOINER}) {
            for (char control : new char[] {0, 1, 9, 10, 13, 30, 31}) {
                items.due(3, control + joined, 0, 1);
            }
            for (char other : new char[] {32, 33, 127, 128, 159, 160, 65535}) {
                items.due(3, other + joined, 0);
            }
        }
        items.due(3, "\r" + MARK + "\n", 0, 1, 2);
        items.due(3, "\n" + MARK + MARK, 0, 1);
    }

    private static void marksAtTheBounds(Measures items) {
        CHECKS.sentence("b is a MARK (768 .. 879) or the JOINER (8205)");
        for (char joined : new char[] {768, 769, 878, 879, 8205}) {
            items.due(3, "a" + joined, 0);
        }
        for (char other : new char[] {767, 880, 8204, 8206}) {
            items.due(3, "a" + other, 0, 1);
        }
    }

    private static void joinedPictures(Measures items) {
        CHECKS.sentence("a is the JOINER, b is a PICTURE, and before a there is a picture");
        items.due(3, PICTURE + JOINER + PICTURE, 0);
        items.due(3, PICTURE + JOINER + PICTURE + JOINER + PICTURE + "a", 0, 8);
        items.due(3, PICTURE + JOINER + "a", 0, 3);
        items.due(3, PICTURE + JOINER + FLAG, 0, 3);
        items.due(3, JOINER + PICTURE, 0, 1);
        items.due(3, "a" + JOINER + PICTURE, 0, 2);
        items.due(3, FLAG + JOINER + PICTURE, 0, 3);
        items.due(3, PICTURE + "a" + JOINER + PICTURE, 0, 2, 4);
        items.due(3, PICTURE + JOINER + JOINER + PICTURE, 0, 4);
        items.due(3, "\n" + JOINER + PICTURE, 0, 1, 2);
        items.due(3, PICTURE + "\n" + JOINER + PICTURE, 0, 2, 3, 4);
    }

    private static void picturesBehindMarks(Measures items) {
        CHECKS.sentence("before a, if the marks directly before it are left out, "
                + "there is a picture");
        items.due(3, PICTURE + MARK + JOINER + PICTURE, 0);
        items.due(3, PICTURE + MARK + MARK + JOINER + PICTURE, 0);
        items.due(3, PICTURE + "\u0300\u036F" + JOINER + PICTURE, 0);
        items.due(3, PICTURE + JOINER + MARK + PICTURE, 0, 4);
        items.due(3, PICTURE + MARK + PICTURE, 0, 3);
        items.due(3, PICTURE + JOINER + MARK + JOINER + PICTURE, 0, 5);
        items.due(3, "a" + MARK + JOINER + PICTURE, 0, 3);
        items.due(3, MARK + JOINER + PICTURE, 0, 2);
        items.due(3, PICTURE + "a" + MARK + JOINER + PICTURE, 0, 2, 5);
        items.due(3, PICTURE + MARK.repeat(155) + JOINER + PICTURE, 0);
    }

    private static void picturesAtTheBounds(Measures items) {
        CHECKS.sentence("a PICTURE (127744 .. 129791)");
        for (int code : new int[] {127744, 127745, 129790, 129791}) {
            items.due(3, PICTURE + JOINER + Texts.point(code), 0);
            items.due(3, Texts.point(code) + JOINER + PICTURE, 0);
        }
        for (int code : new int[] {127742, 127743, 129792, 129793}) {
            items.due(3, PICTURE + JOINER + Texts.point(code), 0, 3);
            items.due(3, Texts.point(code) + JOINER + PICTURE, 0, 3);
        }
    }

    private static void flagsInPairs(Measures items) {
        CHECKS.sentence("a and b are FLAGS, and the number of flags directly before a, "
                + "without a gap, is even.");
        items.due(3, FLAG, 0);
        items.due(3, FLAG.repeat(2), 0);
        items.due(3, FLAG.repeat(3), 0, 4);
        items.due(3, FLAG.repeat(4), 0, 4);
        items.due(3, FLAG.repeat(5), 0, 4, 8);
        items.due(3, "ab" + FLAG.repeat(3), 0, 1, 2, 6);
        int[] everyFourth = new int[40];
        for (int i = 0; i < 40; i++) {
            everyFourth[i] = 4 * i;
        }
        items.due(3, FLAG.repeat(80), everyFourth);
    }

    private static void flagsWithAGap(Measures items) {
        CHECKS.sentence("the number of flags directly before a, without a gap");
        items.due(3, FLAG + "a" + FLAG + FLAG, 0, 2, 3);
        items.due(3, FLAG + MARK + FLAG + FLAG, 0, 3);
        items.due(3, FLAG + FLAG + MARK + FLAG + FLAG, 0, 5);
        items.due(3, FLAG + JOINER + FLAG, 0, 3);
        items.due(3, FLAG + JOINER + FLAG + FLAG + FLAG, 0, 3, 7);
        items.due(3, FLAG + "\uD83C" + FLAG + FLAG, 0, 2, 3);
    }

    private static void flagsAtTheBounds(Measures items) {
        CHECKS.sentence("FLAGS (127462 .. 127487)");
        for (int code : new int[] {127462, 127463, 127486, 127487}) {
            items.due(3, Texts.point(code) + Texts.point(code), 0);
            items.due(3, FLAG + Texts.point(code), 0);
        }
        for (int code : new int[] {127460, 127461, 127488, 127489}) {
            items.due(3, Texts.point(code) + Texts.point(code), 0, 2);
            items.due(3, FLAG + Texts.point(code), 0, 2);
            items.due(3, Texts.point(code) + FLAG + FLAG, 0, 2);
        }
    }

    private static void emptyTexts(Measures items) {
        CHECKS.sentence("ITEMS of a metric are numbered from 0 "
                + "(an empty text has one line, and none of the others)");
        items.due(0, "");
        items.due(1, "");
        items.due(2, "", 0);
        items.due(3, "");
    }

    private static void itemsGoOnToTheNext(Measures items) {
        CHECKS.sentence("An item BEGINS at a place, and goes on to where the next one begins, "
                + "the last one to the end.");
        String text = "a\r\n" + FLAG + FLAG + MARK;
        items.due(0, text, 0, 1, 2, 3, 4, 5, 6, 7);
        items.due(1, text, 0, 1, 2, 3, 5, 7);
        items.due(2, text, 0, 3);
        items.due(3, text, 0, 1, 3);
    }
}
