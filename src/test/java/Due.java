/** Counts and prints the answers that are not as they are due. */
final class Due {
    interface Call {
        Object made();
    }

    private int looked;
    private int wrong;

    void is(String call, Object got, Object want) {
        looked++;
        if (!want.equals(got)) {
            wrong++;
            System.out.println(call + " answered " + got + ", due is " + want);
        }
    }

    /** The very class is due: what the machine throws is of a class below those of the document. */
    void isThrown(String call, Class<? extends RuntimeException> want, Call made) {
        looked++;
        Object got;
        try {
            got = made.made();
        } catch (RuntimeException e) {
            got = e.getClass();
        }
        if (got != want) {
            wrong++;
            System.out.println(call + " answered " + got + ", due is " + want);
        }
    }

    void index(String call, Call made) {
        isThrown(call, IndexOutOfBoundsException.class, made);
    }

    void argument(String call, Call made) {
        isThrown(call, IllegalArgumentException.class, made);
    }

    void state(String call, Call made) {
        isThrown(call, IllegalStateException.class, made);
    }

    void end() {
        System.out.println(looked + " answers looked at, " + wrong + " not as due");
        if (wrong != 0) {
            System.exit(1);
        }
    }
}
