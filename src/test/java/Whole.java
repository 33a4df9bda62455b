import java.util.ArrayList;
import java.util.List;

/** All that an object tells of itself, without a -9: objects in the same state have the same texts. */
final class Whole {
    private Whole() {
    }

    static String of(Skylinesheet s) {
        StringBuilder text = new StringBuilder(seen(s));
        for (int what = 0; what <= 6; what++) {
            text.append(' ').append(s.house(what));
        }
        return text.toString();
    }

    /** The same, but for what is counted. */
    static String seen(Skylinesheet s) {
        StringBuilder text = new StringBuilder(s.skyline());
        for (int n = 0; n < s.house(0); n++) {
            for (int what = 0; what <= 6; what++) {
                text.append(' ').append(s.ofBuilding(n, what));
            }
        }
        for (int n = 0; n < s.house(1); n++) {
            for (int what = 0; what <= 7; what++) {
                text.append(' ').append(s.ofRectangle(n, what));
            }
        }
        for (int sheet = 0; sheet <= 2; sheet++) {
            for (int y = 0; y < 30; y++) {
                text.append(' ').append(s.row(sheet, y));
            }
        }
        return text.toString();
    }

    /** What it tells now, and after each undo() till nothing is told: so two rows of what was told are compared. */
    static List<String> back(Skylinesheet s) {
        List<String> texts = new ArrayList<>();
        texts.add(of(s));
        for (int n = s.house(3); n > 0; n--) {
            s.undo();
            texts.add(of(s));
        }
        return texts;
    }
}
