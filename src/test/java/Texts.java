import java.util.function.Consumer;
import java.util.function.Supplier;

/** Makes, fills and reads the objects of the tests. */
final class Texts {
    /** The two ways to store a text. */
    static final int[] STORES = {1, 0};

    static final String FULL_CLIP = "abcdefghijklmnopqrstuvwx";
    static final String MARK = "\u0301";
    static final String JOINER = "\u200D";
    /** A point of two units, as are the flags. */
    static final String PICTURE = "\uD83D\uDE00";
    static final String FLAG = "\uD83C\uDDE6";

    private static final int CLIP_LIMIT = 24;

    private Texts() {
    }

    /** A new object with this text, made by insertions of full clips; its clip is left empty. */
    static VersionedText holding(int store, String units) {
        VersionedText x = new VersionedText(store);
        for (int at = 0; at < units.length(); at += CLIP_LIMIT) {
            insert(x, at, units.substring(at, Math.min(units.length(), at + CLIP_LIMIT)));
        }
        x.scrap();
        return x;
    }

    /** Makes such objects, each with this clip. */
    static Supplier<VersionedText> made(int store, String units, String clip) {
        return () -> {
            VersionedText x = holding(store, units);
            clip(x, clip);
            return x;
        };
    }

    static Supplier<VersionedText> then(Supplier<VersionedText> made,
            Consumer<VersionedText> change) {
        return () -> {
            VersionedText x = made.get();
            change.accept(x);
            return x;
        };
    }

    static void clip(VersionedText x, String units) {
        x.scrap();
        for (char unit : units.toCharArray()) {
            x.type(unit);
        }
    }

    static boolean insert(VersionedText x, int at, String units) {
        clip(x, units);
        return x.insert(at);
    }

    static boolean replace(VersionedText x, int from, int to, String units) {
        clip(x, units);
        return x.replace(from, to);
    }

    static int find(VersionedText x, int version, int from, String pattern) {
        clip(x, pattern);
        return x.find(version, from);
    }

    static String read(VersionedText x, int version) {
        StringBuilder units = new StringBuilder();
        int length = x.count(version, 0);
        for (int i = 0; i < length; i++) {
            units.append((char) x.unit(version, i));
        }
        return units.toString();
    }

    /** The units of one point, that may be a half of one by itself. */
    static String point(int code) {
        return new String(Character.toChars(code));
    }

    static String point(int first, int second) {
        return "" + (char) first + (char) second;
    }

    /** Numbers that are none of 0 .. last, also those that a narrower type would make one. */
    static int[] beyond(int last) {
        return new int[] {-1, -2, last + 1, last + 2, 256, 65536, Integer.MIN_VALUE,
            Integer.MIN_VALUE + 1, Integer.MAX_VALUE - 1, Integer.MAX_VALUE};
    }

    static String shown(String units) {
        StringBuilder line = new StringBuilder("\"");
        for (char unit : units.toCharArray()) {
            if (unit >= 32 && unit < 127) {
                line.append(unit);
            } else {
                line.append('<').append((int) unit).append('>');
            }
        }
        return line.append('"').toString();
    }
}
