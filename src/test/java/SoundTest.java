import java.lang.reflect.Field;

/**
 * Promise 36 from its other side: what the calls of the face do is sound always, so here one number of what the
 * object holds is altered behind its back, and isSound() is to tell. It names private fields of the class: one that
 * gets another name there gets it here, too.
 */
public final class SoundTest {
    private final Due due = new Due();

    public static void main(String[] args) throws ReflectiveOperationException {
        SoundTest test = new SoundTest();
        test.skylines();
        test.sheets();
        test.firstCovered();
        test.tellings();
        test.due.end();
    }

    /** A house with something on each sheet, a covered rectangle on the first one and on the last one. */
    private static Skylinesheet house() {
        Skylinesheet s = new Skylinesheet();
        s.build(10, 60, 20);
        s.build(40, 90, 30);
        s.build(50, 70, 10);
        for (int sheet = 0; sheet < 3; sheet++) {
            s.lay(sheet, 2, 12, 3, 13);
            s.lay(sheet, 8, 20, 9 + sheet, 21);
        }
        s.lay(0, 3, 5, 4, 6);
        s.lay(2, 9, 11, 12, 13);
        s.raise(2, 5);
        s.turn(1);
        return s;
    }

    private static Object in(Object whole, String... path) throws ReflectiveOperationException {
        Object part = whole;
        for (String name : path) {
            Field field = part.getClass().getDeclaredField(name);
            field.setAccessible(true);
            part = field.get(part);
        }
        return part;
    }

    private static int[] tall(Skylinesheet s, String profile) throws ReflectiveOperationException {
        return (int[]) in(s, "now", "town", profile, "tall");
    }

    /** The rows of the layer of a depth: x stands at the bit x + 1, y at the place y + 1. */
    private static int[] rows(Skylinesheet s, String sheet, int depth) throws ReflectiveOperationException {
        Object[] layers = (Object[]) in(s, "now", "pile", sheet, "layers");
        return (int[]) in(layers[depth - 1], "rows");
    }

    private void tells(String what, Skylinesheet s) {
        due.is("36 isSound(), " + what, s.isSound(), false);
        due.is("36 isSound() again, " + what, s.isSound(), false);
    }

    private void skylines() throws ReflectiveOperationException {
        due.is("36 isSound(), nothing altered", house().isSound(), true);
        for (int x : new int[] {0, 10, 45, 199}) {
            for (String profile : new String[] {"skyline", "evens", "odds"}) {
                Skylinesheet s = house();
                tall(s, profile)[x] = 77;
                tells("the profile " + profile + " altered at " + x, s);
            }
            Skylinesheet s = house();
            tall(s, "skyline")[x] = 77;
            tall(s, "evens")[x] = 77;
            tells("skyline and evens altered at " + x, s);
        }
    }

    private void sheets() throws ReflectiveOperationException {
        for (String sheet : new String[] {"first", "second", "third"}) {
            for (int y : new int[] {0, 29}) {
                Skylinesheet s = house();
                rows(s, sheet, 1)[y + 1] ^= 1 << 26;
                tells("a cell more on the sheet " + sheet + " at y " + y, s);
            }
            Skylinesheet s = house();
            rows(s, sheet, 1)[0] |= 2;
            tells("a cell above the sheet " + sheet, s);
        }
        for (String sheet : new String[] {"first", "third"}) {
            Skylinesheet s = house();
            for (int line = 0; line < 32; line++) {
                rows(s, sheet, 2)[line] = 0;
            }
            tells("nothing has the depth 2 on the sheet " + sheet, s);
            Skylinesheet t = house();
            for (int line = 1; line <= 30; line++) {
                rows(t, sheet, 2)[line] = rows(t, sheet, 1)[line];
            }
            tells("all has the depth 2 on the sheet " + sheet, t);
        }
    }

    /** The very first rectangle alone is covered, so it alone can tell. */
    private void firstCovered() throws ReflectiveOperationException {
        Skylinesheet s = new Skylinesheet();
        s.lay(0, 3, 5, 4, 6);
        s.lay(0, 2, 12, 3, 13);
        due.is("36 isSound(), the first one is covered", s.isSound(), true);
        for (int line = 0; line < 32; line++) {
            rows(s, "first", 2)[line] = 0;
        }
        tells("the first one is not covered any more", s);
    }

    private void tellings() throws ReflectiveOperationException {
        Skylinesheet s = house();
        int[] parts = (int[]) in(s, "told", "parts");
        int first = parts[1];
        long digest = s.digest();
        parts[1] = first + 1;
        tells("another left is told", s);
        due.is("37 digest() ends with 0", s.digest(), digest - 1);
        parts[1] = first;
        due.is("36 isSound(), told as it was", s.isSound(), true);

        int lying = 6 * 3 + 2;
        parts[lying]++;
        tells("another left of a rectangle is told", s);
        parts[lying]--;
        due.is("36 isSound(), told as it was again", s.isSound(), true);

        Skylinesheet t = house();
        Field count = in(t, "told").getClass().getDeclaredField("count");
        count.setAccessible(true);
        count.setInt(in(t, "told"), t.house(3) - 1);
        tells("the last one is not told", t);
    }
}
