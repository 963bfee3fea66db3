import java.util.Objects;

/** Counts what is not as due; each test class has one and ends with it. */
final class Check {
    private int asked = 0;
    private int wrong = 0;

    void due(String call, Object got, Object want) {
        asked++;
        if (!Objects.equals(got, want)) {
            wrong++;
            System.out.println(call + " answered " + got + ", due is " + want);
        }
    }

    /** The call throws just this exception, and nothing is changed by it. */
    void refused(Deeprows store, String call, Class<? extends RuntimeException> want, Runnable run) {
        long before = store.digest();
        due(call, thrownBy(run), want);
        due(call + ", the digest after it", store.digest(), before);
    }

    /** What the call throws itself; AssertionError, if the library throws it beneath the call. */
    static Class<?> thrownBy(Runnable run) {
        try {
            run.run();
        } catch (RuntimeException e) {
            return ownClassOf(e);
        }
        return null;
    }

    static Class<?> ownClassOf(RuntimeException thrown) {
        String thrower = thrown.getStackTrace()[0].getClassName();
        return thrower.equals("Deeprows") || thrower.equals("LibraryStore") ? thrown.getClass() : AssertionError.class;
    }

    void end() {
        System.out.println(asked - wrong + " of " + asked + " answers are as due");
        if (wrong != 0) {
            System.exit(1);
        }
    }
}
