import java.util.List;
import java.util.function.Consumer;
import java.util.function.Predicate;
import java.util.function.Supplier;
import java.util.function.ToIntFunction;

/** Counts the answers that are not as due, and tells them with the sentence that they break. */
final class Checks {
    private final String about;
    private String sentence = "";
    private int asked;
    private int wrong;

    Checks(String about) {
        this.about = about;
    }

    /** The words of the document that the answers from now on are due by. */
    void sentence(String words) {
        sentence = words;
    }

    void due(String call, long got, long want) {
        asked++;
        if (got != want) {
            tell(call, Long.toString(got), Long.toString(want));
        }
    }

    void due(String call, boolean got, boolean want) {
        asked++;
        if (got != want) {
            tell(call, Boolean.toString(got), Boolean.toString(want));
        }
    }

    void due(String call, String got, String want) {
        asked++;
        if (!got.equals(want)) {
            tell(call, Texts.shown(got), Texts.shown(want));
        }
    }

    /** The call answers false, and behind it all calls answer as if it had not been made. */
    void isFalse(String call, Supplier<VersionedText> made, Predicate<VersionedText> asking) {
        due(call, asking.test(made.get()), false);
        changesNothing(call, made, asking::test);
    }

    /** The call answers NONE, and behind it all calls answer as if it had not been made. */
    void isNone(String call, Supplier<VersionedText> made, ToIntFunction<VersionedText> asking) {
        due(call, asking.applyAsInt(made.get()), -1);
        changesNothing(call, made, asking::applyAsInt);
    }

    void isFalseInEveryState(int store, String call, Predicate<VersionedText> asking) {
        States.all(store).forEach((state, made) -> isFalse(call + ", " + state, made, asking));
    }

    void isNoneInEveryState(int store, String call, ToIntFunction<VersionedText> asking) {
        States.all(store).forEach((state, made) -> isNone(call + ", " + state, made, asking));
    }

    void changesNothing(String call, Supplier<VersionedText> made,
            Consumer<VersionedText> asking) {
        isToldAlike(call + " changes nothing", Texts.then(made, asking), made);
    }

    /** Whatever is asked of an object that is made the one way, it answers like the other one. */
    void isToldAlike(String call, Supplier<VersionedText> made, Supplier<VersionedText> like) {
        asked++;
        List<String> got = Told.of(made);
        List<String> want = Told.of(like);
        for (int line = 0; line < Math.max(got.size(), want.size()); line++) {
            String gotLine = line < got.size() ? got.get(line) : "nothing";
            String wantLine = line < want.size() ? want.get(line) : "nothing";
            if (!gotLine.equals(wantLine)) {
                tell(call + ", but behind it an object", gotLine, wantLine);
                return;
            }
        }
    }

    private void tell(String call, String got, String want) {
        wrong++;
        System.out.println(about + ": " + sentence + System.lineSeparator()
                + "    " + call + " answered " + got + ", due is " + want);
    }

    int asked() {
        return asked;
    }

    int wrong() {
        return wrong;
    }

    void close() {
        System.out.println(about + ": " + asked + " answers, " + wrong + " not as due");
        if (wrong != 0 || asked == 0) {
            System.exit(1);
        }
    }
}
