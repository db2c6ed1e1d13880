import java.util.function.IntSupplier;

/** Counts the answers that are not the due ones, and ends a test program. */
final class Due {
    private int wrong = 0;
    private int asked = 0;

    void same(String call, long got, long due) {
        asked++;
        if (got != due) {
            wrong++;
            System.out.println(call + " answered " + got + ", due is " + due);
        }
    }

    void same(String call, boolean got, boolean due) {
        same(call, got ? 1 : 0, due ? 1 : 0);
    }

    void same(String call, double got, double due) {
        asked++;
        if (got != due) {
            wrong++;
            System.out.println(call + " answered " + got + ", due is " + due);
        }
    }

    /** The call has to throw exactly that, and to leave the house as it was. */
    void refused(FramemapHouse house, String call, Class<? extends RuntimeException> due, IntSupplier made) {
        asked++;
        long before = house.digest();
        Class<?> got = null;
        try {
            made.getAsInt();
        } catch (RuntimeException thrown) {
            got = thrown.getClass();
        }
        if (got != due) {
            wrong++;
            System.out.println(call + " threw " + got + ", due is " + due);
        }
        if (house.digest() != before) {
            wrong++;
            System.out.println(call + " changed the house");
        }
    }

    void noSuch(FramemapHouse house, String call, IntSupplier made) {
        refused(house, call, IndexOutOfBoundsException.class, made);
    }

    void notRight(FramemapHouse house, String call, IntSupplier made) {
        refused(house, call, IllegalArgumentException.class, made);
    }

    void notNow(FramemapHouse house, String call, IntSupplier made) {
        refused(house, call, IllegalStateException.class, made);
    }

    void end() {
        System.out.println(asked + " answers, " + wrong + " not as due");
        if (wrong != 0) {
            System.exit(1);
        }
    }
}
