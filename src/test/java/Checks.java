/** Counts the answers that are not as due, and makes, fills and reads the objects of the tests. */
final class Checks {
    /** 1 is the one way to store, any other number the other one. */
    static final int[] STORES = {1, 0, 2, -1, Integer.MIN_VALUE, Integer.MAX_VALUE};

    private static final int CLIP_LIMIT = 24;

    private final String about;
    private int asked;
    private int wrong;

    Checks(String about) {
        this.about = about;
    }

    void due(String call, long got, long want) {
        asked++;
        if (got != want) {
            tell(call, Long.toString(got), Long.toString(want));
        }
    }

    void due(String call, boolean got, boolean want) {
        asked++;
        if (got != want) {
            tell(call, Boolean.toString(got), Boolean.toString(want));
        }
    }

    void due(String call, String got, String want) {
        asked++;
        if (!got.equals(want)) {
            tell(call, shown(got), shown(want));
        }
    }

    private void tell(String call, String got, String want) {
        wrong++;
        System.out.println(about + ": " + call + " answered " + got + ", due is " + want);
    }

    int asked() {
        return asked;
    }

    int wrong() {
        return wrong;
    }

    void close() {
        System.out.println(about + ": " + asked + " answers, " + wrong + " not as due");
        if (wrong != 0 || asked == 0) {
            System.exit(1);
        }
    }

    /** A new object with this text, made by insertions of full clips; its clip is left empty. */
    static VersionedText holding(int store, String units) {
        VersionedText x = new VersionedText(store);
        for (int at = 0; at < units.length(); at += CLIP_LIMIT) {
            clip(x, units.substring(at, Math.min(units.length(), at + CLIP_LIMIT)));
            x.insert(at);
        }
        x.scrap();
        return x;
    }

    static void clip(VersionedText x, String units) {
        x.scrap();
        for (int i = 0; i < units.length(); i++) {
            x.type(units.charAt(i));
        }
    }

    static boolean insert(VersionedText x, int at, String units) {
        clip(x, units);
        return x.insert(at);
    }

    static boolean replace(VersionedText x, int from, int to, String units) {
        clip(x, units);
        return x.replace(from, to);
    }

    static int find(VersionedText x, int version, int from, String pattern) {
        clip(x, pattern);
        return x.find(version, from);
    }

    static String read(VersionedText x, int version) {
        StringBuilder units = new StringBuilder();
        int length = x.count(version, 0);
        for (int i = 0; i < length; i++) {
            units.append((char) x.unit(version, i));
        }
        return units.toString();
    }

    static String shown(String units) {
        StringBuilder line = new StringBuilder("\"");
        for (char unit : units.toCharArray()) {
            if (unit >= 32 && unit < 127) {
                line.append(unit);
            } else {
                line.append('<').append((int) unit).append('>');
            }
        }
        return line.append('"').toString();
    }
}
