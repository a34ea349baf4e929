/** Promises 15 to 17: count, place and item. Where items begin stands in ItemsTest. */
public final class MeasureTest {
    private static final String TEXT = "a" + Texts.FLAG + Texts.FLAG + "\r\nb";

    private static final Checks CHECKS = new Checks("MeasureTest");

    public static void main(String[] args) {
        for (int store : Texts.STORES) {
            eachVersionIsMeasured(store);
            countOfNoVersion(store);
            countOfNoMetric(store);
            placeOfTheNumberOfItems(store);
            placeOfNoVersion(store);
            placeOfNoMetric(store);
            placeOfNoItem(store);
            itemInsideOfWhichThePlaceLies(store);
            itemAtTheEnd(store);
            itemOfNoVersion(store);
            itemOfNoMetric(store);
            itemOfNoPlace(store);
        }
        CHECKS.close();
    }

    private static void eachVersionIsMeasured(int store) {
        CHECKS.sentence("15: How many items of a metric a version has");
        VersionedText x = Texts.holding(store, TEXT);
        x.snapshot();
        x.remove(2, 3);
        String text = "a\uD83C" + Texts.FLAG + "\r\nb";
        Measures items = new Measures(CHECKS, store);
        items.dueIn(x, 1, 0, TEXT, 0, 1, 2, 3, 4, 5, 6, 7);
        items.dueIn(x, 1, 1, TEXT, 0, 1, 3, 5, 6, 7);
        items.dueIn(x, 1, 2, TEXT, 0, 7);
        items.dueIn(x, 1, 3, TEXT, 0, 1, 5, 7);
        items.dueIn(x, 0, 1, text, 0, 1, 2, 4, 5, 6);
        items.dueIn(x, 0, 3, text, 0, 1, 2, 4, 6);
        VersionedText none = new VersionedText(store);
        CHECKS.due("count(0, 0) of nothing", none.count(0, 0), 0);
        CHECKS.due("count(0, 1) of nothing", none.count(0, 1), 0);
        CHECKS.due("count(0, 2) of nothing", none.count(0, 2), 1);
        CHECKS.due("count(0, 3) of nothing", none.count(0, 3), 0);
    }

    private static void countOfNoVersion(int store) {
        CHECKS.sentence("15: NONE when there is no such version");
        for (int version : Texts.beyond(4)) {
            CHECKS.isNoneInEveryState(store, "count(" + version + ", 0)",
                    x -> x.count(version, 0));
        }
        for (int metric = 0; metric <= 3; metric++) {
            int asked = metric;
            CHECKS.isNone("count(2, " + metric + ") of one that went",
                    () -> States.typing(store), x -> x.count(2, asked));
            CHECKS.isNone("count(4, " + metric + ") of none",
                    () -> States.typing(store), x -> x.count(4, asked));
        }
    }

    private static void countOfNoMetric(int store) {
        CHECKS.sentence("15: NONE when there is no such metric.");
        for (int metric : Texts.beyond(3)) {
            CHECKS.isNoneInEveryState(store, "count(0, " + metric + ")",
                    x -> x.count(0, metric));
            CHECKS.isNone("count(1, " + metric + ")", () -> States.typing(store),
                    x -> x.count(1, metric));
        }
    }

    private static void placeOfTheNumberOfItems(int store) {
        CHECKS.sentence("16: the length for k being the number of items.");
        int[] numbers = {8, 6, 2, 4};
        for (int metric = 0; metric <= 3; metric++) {
            VersionedText x = Texts.holding(store, TEXT);
            int number = numbers[metric];
            CHECKS.due("place(0, " + metric + ", " + number + ")",
                    x.place(0, metric, number), 8);
            CHECKS.due("place(0, " + metric + ", 0)", x.place(0, metric, 0), 0);
            VersionedText none = new VersionedText(store);
            CHECKS.due("place(0, " + metric + ", 0) of nothing", none.place(0, metric, 0), 0);
            CHECKS.due("place(0, " + metric + ", 1) of nothing", none.place(0, metric, 1),
                    metric == 2 ? 0 : -1);
            VersionedText full = Texts.holding(store, "\n".repeat(160));
            CHECKS.due("place(0, " + metric + ", 160) of 160", full.place(0, metric, 160), 160);
            CHECKS.due("place(0, " + metric + ", 161) of 160", full.place(0, metric, 161),
                    metric == 2 ? 160 : -1);
            CHECKS.due("place(0, " + metric + ", 162) of 160", full.place(0, metric, 162), -1);
        }
    }

    private static void placeOfNoVersion(int store) {
        CHECKS.sentence("16: NONE when there is no such version");
        for (int version : Texts.beyond(4)) {
            CHECKS.isNoneInEveryState(store, "place(" + version + ", 2, 0)",
                    x -> x.place(version, 2, 0));
        }
        for (int metric = 0; metric <= 3; metric++) {
            int asked = metric;
            CHECKS.isNone("place(2, " + metric + ", 0) of one that went",
                    () -> States.typing(store), x -> x.place(2, asked, 0));
            CHECKS.isNone("place(4, " + metric + ", 0) of none",
                    () -> States.typing(store), x -> x.place(4, asked, 0));
        }
    }

    private static void placeOfNoMetric(int store) {
        CHECKS.sentence("16: NONE when there is no such metric");
        for (int metric : Texts.beyond(3)) {
            CHECKS.isNoneInEveryState(store, "place(0, " + metric + ", 0)",
                    x -> x.place(0, metric, 0));
            CHECKS.isNone("place(1, " + metric + ", 0)", () -> States.typing(store),
                    x -> x.place(1, metric, 0));
        }
    }

    private static void placeOfNoItem(int store) {
        CHECKS.sentence("16: NONE when there is no such item.");
        for (int metric = 0; metric <= 3; metric++) {
            int asked = metric;
            for (int k : Texts.beyond(161)) {
                CHECKS.isNoneInEveryState(store, "place(0, " + metric + ", " + k + ")",
                        x -> x.place(0, asked, k));
            }
            CHECKS.isNoneInEveryState(store, "place(0, " + metric + ", number + 1)",
                    x -> x.place(0, asked, x.count(0, asked) + 1));
            CHECKS.isNone("place(1, " + metric + ", number + 1)", () -> States.typing(store),
                    x -> x.place(1, asked, x.count(1, asked) + 1));
        }
    }

    private static void itemInsideOfWhichThePlaceLies(int store) {
        CHECKS.sentence("17: the one that begins there, or inside of which it lies");
        VersionedText x = Texts.holding(store, TEXT);
        int[][] due = {{0, 1, 2, 3, 4, 5, 6, 7}, {0, 1, 1, 2, 2, 3, 4, 5},
            {0, 0, 0, 0, 0, 0, 0, 1}, {0, 1, 1, 1, 1, 2, 2, 3}};
        for (int metric = 0; metric <= 3; metric++) {
            for (int place = 0; place < 8; place++) {
                CHECKS.due("item(0, " + metric + ", " + place + ")",
                        x.item(0, metric, place), due[metric][place]);
            }
        }
    }

    private static void itemAtTheEnd(int store) {
        CHECKS.sentence("17: at the end of the text the number of items, "
                + "but for lines the last one.");
        String[] texts = {"", "a", TEXT, "ab\n", "a\r\n", "\n".repeat(160),
            Texts.PICTURE.repeat(80)};
        for (String text : texts) {
            VersionedText x = Texts.holding(store, text);
            int length = text.length();
            for (int metric = 0; metric <= 3; metric++) {
                int number = x.count(0, metric);
                CHECKS.due("item(0, " + metric + ", length) of " + Texts.shown(text),
                        x.item(0, metric, length), metric == 2 ? number - 1 : number);
            }
        }
        VersionedText none = new VersionedText(store);
        for (int metric = 0; metric <= 3; metric++) {
            CHECKS.due("item(0, " + metric + ", 0) of nothing", none.item(0, metric, 0), 0);
        }
    }

    private static void itemOfNoVersion(int store) {
        CHECKS.sentence("17: NONE when there is no such version");
        for (int version : Texts.beyond(4)) {
            CHECKS.isNoneInEveryState(store, "item(" + version + ", 2, 0)",
                    x -> x.item(version, 2, 0));
        }
        for (int metric = 0; metric <= 3; metric++) {
            int asked = metric;
            CHECKS.isNone("item(2, " + metric + ", 0) of one that went",
                    () -> States.typing(store), x -> x.item(2, asked, 0));
            CHECKS.isNone("item(4, " + metric + ", 0) of none",
                    () -> States.typing(store), x -> x.item(4, asked, 0));
        }
    }

    private static void itemOfNoMetric(int store) {
        CHECKS.sentence("17: NONE when there is no such metric");
        for (int metric : Texts.beyond(3)) {
            CHECKS.isNoneInEveryState(store, "item(0, " + metric + ", 0)",
                    x -> x.item(0, metric, 0));
            CHECKS.isNone("item(1, " + metric + ", 0)", () -> States.typing(store),
                    x -> x.item(1, metric, 0));
        }
    }

    private static void itemOfNoPlace(int store) {
        CHECKS.sentence("17: NONE when there is no such place.");
        for (int metric = 0; metric <= 3; metric++) {
            int asked = metric;
            for (int place : Texts.beyond(160)) {
                CHECKS.isNoneInEveryState(store, "item(0, " + metric + ", " + place + ")",
                        x -> x.item(0, asked, place));
            }
            CHECKS.isNoneInEveryState(store, "item(0, " + metric + ", length + 1)",
                    x -> x.item(0, asked, x.count(0, 0) + 1));
            CHECKS.isNone("item(1, " + metric + ", 8), a place of the text alone",
                    () -> States.typing(store), x -> x.item(1, asked, 8));
        }
    }
}
