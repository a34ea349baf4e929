/**
 * A text that is edited, goes back and forward through its steps, keeps snapshots, and can be
 * measured and walked in units, points, lines and clusters, and searched.
 *
 * Every row is made in a constructor and used again: no call of the face makes an object.
 */
public final class VersionedText {
    public static final int NONE = -1;

    private static final int TEXT_LIMIT = 160;
    private static final int CLIP_LIMIT = 24;
    private static final int STEP_LIMIT = 8;
    private static final int SNAPSHOT_LIMIT = 4;

    private static final int GAP_STORE = 1;

    private static final int UNITS = 0;
    private static final int POINTS = 1;
    private static final int LINES = 2;
    private static final int CLUSTERS = 3;

    private static final int FEED = 10;
    private static final int RETURN = 13;

    private final Text text;
    private final RowText clip;
    private final Text[] versions;
    private final boolean[] kept;
    private final History history;
    private final Items items;
    private final Search search;
    private int guardMetric;
    /** Where an insertion goes on with the latest step; NONE when none can. */
    private int typingPlace;

    public VersionedText(int store) {
        if (store == GAP_STORE) {
            text = new GapText(TEXT_LIMIT);
        } else {
            text = new RowText(TEXT_LIMIT);
        }
        clip = new RowText(CLIP_LIMIT);
        versions = new Text[SNAPSHOT_LIMIT + 1];
        kept = new boolean[SNAPSHOT_LIMIT + 1];
        versions[0] = text;
        kept[0] = true;
        for (int version = 1; version <= SNAPSHOT_LIMIT; version++) {
            versions[version] = new RowText(TEXT_LIMIT);
        }
        history = new History();
        items = new Items();
        search = new Search();
        guardMetric = UNITS;
        typingPlace = NONE;
    }

    public boolean type(char c) {
        return clip.append(c);
    }

    public void scrap() {
        clip.cut(0, clip.length());
    }

    public boolean insert(int at) {
        if (!canTakeClip(at, at)) {
            return false;
        }
        text.put(at, clip);
        boolean typing = clipIsTyping();
        if (typing && at == typingPlace) {
            history.extendStep(text);
        } else {
            history.addStep(text);
        }
        typingPlace = typing ? at + 1 : NONE;
        return true;
    }

    public boolean remove(int from, int to) {
        if (from == to || !canEdit(from, to)) {
            return false;
        }
        text.cut(from, to);
        addClosedStep();
        return true;
    }

    public boolean replace(int from, int to) {
        if (!canTakeClip(from, to)) {
            return false;
        }
        text.cut(from, to);
        text.put(from, clip);
        addClosedStep();
        return true;
    }

    public boolean undo() {
        if (history.undoable() == 0) {
            return false;
        }
        history.goBack(text);
        typingPlace = NONE;
        return true;
    }

    public boolean redo() {
        if (history.redoable() == 0) {
            return false;
        }
        history.goForward(text);
        typingPlace = NONE;
        return true;
    }

    public int steps(int which) {
        switch (which) {
            case 0:
                return history.undoable();
            case 1:
                return history.redoable();
            default:
                return NONE;
        }
    }

    public void seal() {
        typingPlace = NONE;
    }

    public boolean guard(int metric) {
        if (metric != UNITS && metric != POINTS && metric != CLUSTERS) {
            return false;
        }
        guardMetric = metric;
        typingPlace = NONE;
        return true;
    }

    public int snapshot() {
        for (int version = 1; version <= SNAPSHOT_LIMIT; version++) {
            if (!kept[version]) {
                versions[version].become(text);
                kept[version] = true;
                return version;
            }
        }
        return NONE;
    }

    public boolean release(int version) {
        if (version == 0 || !isVersion(version)) {
            return false;
        }
        kept[version] = false;
        return true;
    }

    public int unit(int version, int i) {
        return isVersion(version) ? versions[version].at(i) : NONE;
    }

    public int count(int version, int metric) {
        if (!isVersion(version) || !isMetric(metric)) {
            return NONE;
        }
        items.measure(versions[version], metric);
        return items.number();
    }

    public int place(int version, int metric, int k) {
        if (!isVersion(version) || !isMetric(metric)) {
            return NONE;
        }
        items.measure(versions[version], metric);
        return items.beginningOf(k);
    }

    public int item(int version, int metric, int place) {
        if (!isVersion(version) || !isMetric(metric) || !isPlace(versions[version], place)) {
            return NONE;
        }
        items.measure(versions[version], metric);
        return items.having(place);
    }

    public boolean same(int version, int other) {
        return isVersion(version) && isVersion(other)
                && haveSameUnits(versions[version], versions[other]);
    }

    public int find(int version, int from) {
        if (!isVersion(version) || !isPlace(versions[version], from)) {
            return NONE;
        }
        return search.takePattern(clip) ? search.firstMatch(versions[version], from) : NONE;
    }

    public int end() {
        return search.matchEnd();
    }

    private boolean isVersion(int version) {
        return version >= 0 && version <= SNAPSHOT_LIMIT && kept[version];
    }

    private static boolean isMetric(int metric) {
        return metric >= UNITS && metric <= CLUSTERS;
    }

    private static boolean isPlace(Text walked, int place) {
        return place >= 0 && place <= walked.length();
    }

    private boolean canTakeClip(int from, int to) {
        return clip.length() > 0 && canEdit(from, to)
                && text.length() - (to - from) + clip.length() <= TEXT_LIMIT;
    }

    private boolean canEdit(int from, int to) {
        if (!isPlace(text, from) || !isPlace(text, to) || from > to) {
            return false;
        }
        items.measure(text, guardMetric);
        return !items.isInside(from) && !items.isInside(to);
    }

    private boolean clipIsTyping() {
        return clip.length() == 1 && clip.at(0) != FEED && clip.at(0) != RETURN;
    }

    private void addClosedStep() {
        history.addStep(text);
        typingPlace = NONE;
    }

    private static boolean haveSameUnits(Text one, Text other) {
        if (one.length() != other.length()) {
            return false;
        }
        for (int i = 0; i < one.length(); i++) {
            if (one.at(i) != other.at(i)) {
                return false;
            }
        }
        return true;
    }

    /** A row of units; who edits it has looked at the places and the room before. */
    private interface Text {
        int length();

        /** The unit at i; NONE when there is none. */
        int at(int i);

        void cut(int from, int to);

        void put(int place, RowText added);

        void become(Text other);
    }

    /** The units from the row's beginning on, without a gap. */
    private static final class RowText implements Text {
        private final char[] units;
        private int length;

        RowText(int limit) {
            units = new char[limit];
            length = 0;
        }

        public int length() {
            return length;
        }

        public int at(int i) {
            return i >= 0 && i < length ? units[i] : NONE;
        }

        public void cut(int from, int to) {
            System.arraycopy(units, to, units, from, length - to);
            length -= to - from;
        }

        public void put(int place, RowText added) {
            System.arraycopy(units, place, units, place + added.length, length - place);
            added.copyInto(units, place);
            length += added.length;
        }

        public void become(Text other) {
            length = other.length();
            for (int i = 0; i < length; i++) {
                units[i] = (char) other.at(i);
            }
        }

        boolean append(char unit) {
            if (length >= units.length) {
                return false;
            }
            units[length] = unit;
            length++;
            return true;
        }

        void copyInto(char[] row, int place) {
            System.arraycopy(units, 0, row, place, length);
        }
    }

    /** The units with a gap where the latest edit was, so that edits close by move little. */
    private static final class GapText implements Text {
        private final char[] units;
        private int gapStart;
        private int gapEnd;

        GapText(int limit) {
            units = new char[limit];
            gapStart = 0;
            gapEnd = limit;
        }

        public int length() {
            return units.length - (gapEnd - gapStart);
        }

        public int at(int i) {
            if (i < 0 || i >= length()) {
                return NONE;
            }
            return i < gapStart ? units[i] : units[i + gapEnd - gapStart];
        }

        public void cut(int from, int to) {
            moveGap(from);
            gapEnd += to - from;
        }

        public void put(int place, RowText added) {
            moveGap(place);
            added.copyInto(units, place);
            gapStart += added.length();
        }

        public void become(Text other) {
            gapStart = other.length();
            gapEnd = units.length;
            for (int i = 0; i < gapStart; i++) {
                units[i] = (char) other.at(i);
            }
        }

        private void moveGap(int place) {
            int gap = gapEnd - gapStart;
            if (place < gapStart) {
                System.arraycopy(units, place, units, place + gap, gapStart - place);
            } else {
                System.arraycopy(units, gapEnd, units, gapStart, place - gapStart);
            }
            gapStart = place;
            gapEnd = place + gap;
        }
    }

    /** What the text was before and behind each step, in a ring of one text more than steps. */
    private static final class History {
        private static final int SLOTS = STEP_LIMIT + 1;

        private final RowText[] texts;
        private int oldest;
        private int done;
        private int undone;

        History() {
            texts = new RowText[SLOTS];
            for (int slot = 0; slot < SLOTS; slot++) {
                texts[slot] = new RowText(TEXT_LIMIT);
            }
            oldest = 0;
            done = 0;
            undone = 0;
        }

        int undoable() {
            return done;
        }

        int redoable() {
            return undone;
        }

        void addStep(Text edited) {
            undone = 0;
            if (done < STEP_LIMIT) {
                done++;
            } else {
                oldest = (oldest + 1) % SLOTS;
            }
            latest().become(edited);
        }

        void extendStep(Text edited) {
            latest().become(edited);
        }

        void goBack(Text changed) {
            done--;
            undone++;
            changed.become(latest());
        }

        void goForward(Text changed) {
            done++;
            undone--;
            changed.become(latest());
        }

        private RowText latest() {
            return texts[(oldest + done) % SLOTS];
        }
    }

    /** The places at which the items of one metric begin, of the text measured latest. */
    private static final class Items {
        private final int[] beginnings;
        private final ClusterWalk clusters;
        private int number;
        private int length;
        private int metric;

        Items() {
            // A text of breaks alone has one line more than units.
            beginnings = new int[TEXT_LIMIT + 1];
            clusters = new ClusterWalk();
            number = 0;
            length = 0;
            metric = UNITS;
        }

        void measure(Text text, int metricWanted) {
            number = 0;
            length = text.length();
            metric = metricWanted;
            clusters.restart();
            for (int place = 0; place <= length; place++) {
                if (begins(text, place)) {
                    beginnings[number] = place;
                    number++;
                }
            }
        }

        int number() {
            return number;
        }

        int beginningOf(int k) {
            if (k < 0 || k > number) {
                return NONE;
            }
            return k == number ? length : beginnings[k];
        }

        int having(int place) {
            if (place == length && metric != LINES) {
                return number;
            }
            int k = number - 1;
            while (k > 0 && beginnings[k] > place) {
                k--;
            }
            return k;
        }

        boolean isInside(int place) {
            return place < length && beginnings[having(place)] != place;
        }

        private boolean begins(Text text, int place) {
            if (metric == LINES) {
                return beginsLine(text, place);
            }
            if (place == length || (metric != UNITS && isSecondHalf(text, place))) {
                return false;
            }
            return metric != CLUSTERS || clusters.isCutBefore(codeAt(text, place));
        }

        private static boolean beginsLine(Text text, int place) {
            int before = text.at(place - 1);
            return place == 0 || before == FEED || (before == RETURN && text.at(place) != FEED);
        }

        private static boolean isSecondHalf(Text text, int place) {
            return isFirst(text.at(place - 1)) && isSecond(text.at(place));
        }

        private static int codeAt(Text text, int place) {
            int first = text.at(place);
            int second = text.at(place + 1);
            if (!isFirst(first) || !isSecond(second)) {
                return first;
            }
            return 65536 + 1024 * (first - 55296) + second - 56320;
        }

        private static boolean isFirst(int unit) {
            return unit >= 55296 && unit <= 56319;
        }

        private static boolean isSecond(int unit) {
            return unit >= 56320 && unit <= 57343;
        }
    }

    /** Goes through the points of a text once, remembering what the next cut depends on. */
    private static final class ClusterWalk {
        private static final int JOINER = 8205;
        private static final int LAST_CONTROL = 31;

        private int last;
        /** The latest point before the last one that is no mark. */
        private int lead;
        private int flagsBeforeLast;

        ClusterWalk() {
            last = NONE;
            lead = NONE;
            flagsBeforeLast = 0;
        }

        void restart() {
            last = NONE;
            lead = NONE;
            flagsBeforeLast = 0;
        }

        boolean isCutBefore(int point) {
            boolean cut = last == NONE || !isJoinedTo(point);
            flagsBeforeLast = isFlag(last) ? flagsBeforeLast + 1 : 0;
            if (!isMark(last)) {
                lead = last;
            }
            last = point;
            return cut;
        }

        private boolean isJoinedTo(int point) {
            if (isMark(point) || point == JOINER) {
                return last > LAST_CONTROL;
            }
            if (isPicture(point)) {
                return last == JOINER && isPicture(lead);
            }
            if (isFlag(point)) {
                return isFlag(last) && flagsBeforeLast % 2 == 0;
            }
            return last == RETURN && point == FEED;
        }

        private static boolean isMark(int point) {
            return point >= 768 && point <= 879;
        }

        private static boolean isPicture(int point) {
            return point >= 127744 && point <= 129791;
        }

        private static boolean isFlag(int point) {
            return point >= 127462 && point <= 127487;
        }
    }

    /**
     * Goes from the text's end to its beginning, keeping for each element the greatest place that
     * it and those behind it match to: one pass answers for all places, whatever the stars.
     */
    private static final class Search {
        private static final int STAR = 42;
        private static final int DOT = 46;

        private final int[] wanted;
        private final boolean[] starred;
        private final int[] reached;
        private int elements;
        private int end;

        Search() {
            wanted = new int[CLIP_LIMIT];
            starred = new boolean[CLIP_LIMIT];
            reached = new int[CLIP_LIMIT + 1];
            elements = 0;
            end = NONE;
        }

        boolean takePattern(RowText pattern) {
            elements = 0;
            for (int i = 0; i < pattern.length(); i++) {
                int unit = pattern.at(i);
                if (unit != STAR) {
                    wanted[elements] = unit;
                    starred[elements] = false;
                    elements++;
                } else if (elements == 0 || starred[elements - 1]) {
                    return false;
                } else {
                    starred[elements - 1] = true;
                }
            }
            return elements > 0;
        }

        int firstMatch(Text text, int from) {
            int start = NONE;
            for (int place = text.length(); place >= from; place--) {
                reachFrom(place, text.at(place));
                if (reached[0] != NONE) {
                    start = place;
                    end = reached[0];
                }
            }
            return start;
        }

        /** The end of the latest match: a search that finds none leaves it. */
        int matchEnd() {
            return end;
        }

        /** Before it the row holds what is reached from the next place; behind it, from this one. */
        private void reachFrom(int place, int unit) {
            int nextElementFromNextPlace = reached[elements];
            reached[elements] = place;
            for (int element = elements - 1; element >= 0; element--) {
                int fromNextPlace = reached[element];
                boolean taken = standsFor(element, unit);
                if (starred[element]) {
                    int withUnit = taken ? fromNextPlace : NONE;
                    reached[element] = Math.max(withUnit, reached[element + 1]);
                } else {
                    reached[element] = taken ? nextElementFromNextPlace : NONE;
                }
                nextElementFromNextPlace = fromNextPlace;
            }
        }

        /** No element stands for the NONE at the text's end. */
        private boolean standsFor(int element, int unit) {
            if (wanted[element] == DOT) {
                return unit != NONE && unit != FEED && unit != RETURN;
            }
            return unit == wanted[element];
        }
    }
}
