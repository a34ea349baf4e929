import java.util.ArrayList;
import java.util.BitSet;
import java.util.List;
import java.util.regex.Matcher;
import java.util.regex.Pattern;

/** The document once more, slowly and over Strings: each answer straight from its definition. */
final class Model {
    private static final int NONE = -1;

    private String text = "";
    private String clip = "";
    private final String[] snapshots = new String[5];
    private final List<String> before = new ArrayList<>();
    private final List<String> behind = new ArrayList<>();
    private int guard;
    private boolean typing;
    private int typedTo;
    private int foundEnd = NONE;

    boolean type(char c) {
        if (clip.length() == 24) {
            return false;
        }
        clip += c;
        return true;
    }

    void scrap() {
        clip = "";
    }

    boolean insert(int at) {
        if (!canReplace(at, at)) {
            return false;
        }
        boolean single = clip.length() == 1 && !clip.equals("\n") && !clip.equals("\r");
        if (!(single && typing && typedTo == at)) {
            beginStep();
        }
        text = text.substring(0, at) + clip + text.substring(at);
        typing = single;
        typedTo = at + 1;
        return true;
    }

    boolean remove(int from, int to) {
        if (from >= to || !canTouch(from) || !canTouch(to)) {
            return false;
        }
        beginStep();
        text = text.substring(0, from) + text.substring(to);
        return true;
    }

    boolean replace(int from, int to) {
        if (!canReplace(from, to)) {
            return false;
        }
        beginStep();
        text = text.substring(0, from) + clip + text.substring(to);
        return true;
    }

    private boolean canReplace(int from, int to) {
        return from <= to && canTouch(from) && canTouch(to) && !clip.isEmpty()
                && text.length() - (to - from) + clip.length() <= 160;
    }

    private boolean canTouch(int place) {
        if (place < 0 || place > text.length()) {
            return false;
        }
        return place == text.length() || beginnings(text, guard).contains(place);
    }

    private void beginStep() {
        typing = false;
        behind.clear();
        before.add(text);
        if (before.size() > 8) {
            before.remove(0);
        }
    }

    boolean undo() {
        return move(before, behind);
    }

    boolean redo() {
        return move(behind, before);
    }

    private boolean move(List<String> from, List<String> to) {
        if (from.isEmpty()) {
            return false;
        }
        to.add(text);
        text = from.remove(from.size() - 1);
        typing = false;
        return true;
    }

    int steps(int which) {
        return which == 0 ? before.size() : which == 1 ? behind.size() : NONE;
    }

    void seal() {
        typing = false;
    }

    boolean guard(int metric) {
        if (metric != 0 && metric != 1 && metric != 3) {
            return false;
        }
        guard = metric;
        typing = false;
        return true;
    }

    int snapshot() {
        for (int version = 1; version <= 4; version++) {
            if (snapshots[version] == null) {
                snapshots[version] = text;
                return version;
            }
        }
        return NONE;
    }

    boolean release(int version) {
        if (version == 0 || version(version) == null) {
            return false;
        }
        snapshots[version] = null;
        return true;
    }

    private String version(int version) {
        return version == 0 ? text : version < 0 || version > 4 ? null : snapshots[version];
    }

    int unit(int version, int i) {
        String units = version(version);
        return units == null || i < 0 || i >= units.length() ? NONE : units.charAt(i);
    }

    int count(int version, int metric) {
        return isMeasured(version, metric) ? beginnings(version(version), metric).size() : NONE;
    }

    int place(int version, int metric, int k) {
        if (!isMeasured(version, metric)) {
            return NONE;
        }
        List<Integer> places = beginnings(version(version), metric);
        places.add(version(version).length());
        return k < 0 || k >= places.size() ? NONE : places.get(k);
    }

    int item(int version, int metric, int place) {
        if (!isMeasured(version, metric) || place < 0 || place > version(version).length()) {
            return NONE;
        }
        List<Integer> places = beginnings(version(version), metric);
        if (place == version(version).length()) {
            return metric == 2 ? places.size() - 1 : places.size();
        }
        int begun = 0;
        for (int beginning : places) {
            begun += beginning <= place ? 1 : 0;
        }
        return begun - 1;
    }

    private boolean isMeasured(int version, int metric) {
        return version(version) != null && metric >= 0 && metric <= 3;
    }

    boolean same(int version, int other) {
        return version(version) != null && version(version).equals(version(other));
    }

    int find(int version, int from) {
        String units = version(version);
        if (units == null || from < 0 || from > units.length() || !clip.matches("([^*]\\*?)+")) {
            return NONE;
        }
        for (int start = from; start <= units.length(); start++) {
            int end = matchedTo(units, start).length() - 1;
            if (end >= start) {
                foundEnd = end;
                return start;
            }
        }
        return NONE;
    }

    /** The places to which the clip matches from one place. */
    private BitSet matchedTo(String units, int start) {
        BitSet places = new BitSet();
        places.set(start);
        for (int i = 0; i < clip.length(); i++) {
            char element = clip.charAt(i);
            if (element == '*') {
                continue;
            }
            boolean star = i + 1 < clip.length() && clip.charAt(i + 1) == '*';
            BitSet next = new BitSet();
            for (int place = 0; place <= units.length(); place++) {
                if (places.get(place) && star) {
                    next.set(place);
                }
                boolean begun = places.get(place) || (star && next.get(place));
                if (begun && place < units.length() && stands(element, units.charAt(place))) {
                    next.set(place + 1);
                }
            }
            places = next;
        }
        return places;
    }

    private static boolean stands(char element, char unit) {
        return element == '.' ? unit != '\n' && unit != '\r' : element == unit;
    }

    int end() {
        return foundEnd;
    }

    private static List<Integer> beginnings(String units, int metric) {
        List<Integer> places = new ArrayList<>();
        for (int place = 0; place < units.length(); place++) {
            boolean point = place == 0 || !Character.isSurrogatePair(
                    units.charAt(place - 1), units.charAt(place));
            if (metric == 0 || (metric == 1 && point)
                    || (metric == 3 && point && isCut(units, place))) {
                places.add(place);
            }
        }
        if (metric == 2) {
            places.add(0);
            Matcher breaks = Pattern.compile("\\r\\n|\\r|\\n").matcher(units);
            while (breaks.find()) {
                places.add(breaks.end());
            }
        }
        return places;
    }

    private static boolean isCut(String units, int place) {
        if (place == 0) {
            return true;
        }
        int[] points = units.substring(0, place).codePoints().toArray();
        int a = points[points.length - 1];
        int b = units.codePointAt(place);
        if (a == 13 && b == 10) {
            return false;
        }
        if (!(a >= 0 && a <= 31) && (isMark(b) || b == 8205)) {
            return false;
        }
        if (a == 8205 && isPicture(b)) {
            int lead = points.length - 2;
            while (lead >= 0 && isMark(points[lead])) {
                lead--;
            }
            return lead < 0 || !isPicture(points[lead]);
        }
        if (isFlag(a) && isFlag(b)) {
            int flags = 0;
            while (points.length - 2 - flags >= 0 && isFlag(points[points.length - 2 - flags])) {
                flags++;
            }
            return flags % 2 != 0;
        }
        return true;
    }

    private static boolean isMark(int code) {
        return 768 <= code && code <= 879;
    }

    private static boolean isPicture(int code) {
        return 127744 <= code && code <= 129791;
    }

    private static boolean isFlag(int code) {
        return 127462 <= code && code <= 127487;
    }
}
