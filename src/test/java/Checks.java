/** Counts and prints the calls whose answers are not the ones that are due. */
final class Checks {
    interface Call {
        long answer();
    }

    private static int made = 0;
    private static int wrong = 0;
    private static String about = "";

    private Checks() {
    }

    /** What is checked from here on: a promise, and a sentence of the document that bears on it. */
    static void says(int promise, String sentence) {
        about = "promise " + promise + " (" + sentence + "): ";
    }

    static void is(String what, long got, long want) {
        made++;
        if (got != want) {
            wrong++;
            System.out.println(about + what + " answered " + got + ", due is " + want);
        }
    }

    static void is(String what, boolean got, boolean want) {
        is(what, got ? 1 : 0, want ? 1 : 0);
    }

    static void fails(String what, Class<? extends RuntimeException> want, Call call) {
        made++;
        String got;
        try {
            got = "answered " + call.answer();
        } catch (RuntimeException e) {
            if (e.getClass() == want) {
                return;
            }
            got = "threw " + e;
        }
        wrong++;
        System.out.println(about + what + " " + got + ", due is " + want.getSimpleName());
    }

    static void noState(String what, Call call) {
        fails(what, IllegalStateException.class, call);
    }

    static void noPlace(String what, Call call) {
        fails(what, IndexOutOfBoundsException.class, call);
    }

    static void noArgument(String what, Call call) {
        fails(what, IllegalArgumentException.class, call);
    }

    static void noRoom(String what, Call call) {
        fails(what, UnsupportedOperationException.class, call);
    }

    /** Byte for byte what was WRITTEN. */
    static void written(String what, MaskLayers page, int... want) {
        is(what + " told(4)", page.told(4), want.length);
        for (int i = 0; i < Math.min(want.length, page.told(4)); i++) {
            is(what + " byteAt(" + i + ")", page.byteAt(i), want[i]);
        }
    }

    /** Whether what was WRITTEN has these bytes from a place on. */
    static void writtenFrom(String what, MaskLayers page, int place, int... want) {
        for (int i = 0; i < want.length; i++) {
            is(what + " byteAt(" + (place + i) + ")", page.byteAt(place + i), want[i]);
        }
    }

    static void feedAll(MaskLayers page, int... bytes) {
        for (int b : bytes) {
            page.feed(b);
        }
    }

    static void end() {
        System.out.println(made + " checks, " + wrong + " wrong");
        if (wrong != 0 || made == 0) {
            System.exit(1);
        }
    }
}
