import java.util.Random;

/**
 * Calls of all promises in any order with any numbers: one that throws must do so by a throw
 * statement of its own, and throw what its line in the document names.
 */
public final class WildCallsTest {
    private static final int OBJECTS = 3000;
    private static final int CALLS = 512;
    private static final int[] EDGES = {Integer.MIN_VALUE, -25, -2, -1, 0, 1, 2, 3, 7, 8, 9, 23, 24, 25,
        76, 77, 159, 160, 161, 162, 163, 175, 255, 256, 576, 6399, 6400, 16777215, 16777216, Integer.MAX_VALUE};
    private static final String STATE = "IllegalStateException";
    private static final String PLACE = "IndexOutOfBoundsException";
    private static final String ARGUMENT = "IllegalArgumentException";
    private static final String ROOM = "UnsupportedOperationException";

    public static void main(String[] args) {
        Random random = new Random(6);
        for (int k = 0; k < OBJECTS; k++) {
            MaskLayers page = new MaskLayers(number(random), number(random));
            for (int call = 0; call < CALLS; call++) {
                oneCall(random, page);
            }
        }
        Checks.end();
    }

    private static int number(Random random) {
        int kind = random.nextInt(8);
        return kind == 0 ? random.nextInt() : kind < 3 ? EDGES[random.nextInt(EDGES.length)] : random.nextInt(26) - 1;
    }

    private static void oneCall(Random r, MaskLayers page) {
        int a = number(r);
        int b = number(r);
        int c = number(r);
        int d = number(r);
        boolean on = r.nextBoolean();
        switch (r.nextInt(18)) {
            case 0: mayThrow(() -> page.put(a, b, c, d), PLACE, ARGUMENT); break;
            case 1: mayThrow(() -> page.mask(a, b, c, on), PLACE, ARGUMENT); break;
            case 2: mayThrow(() -> page.stripe(a), ARGUMENT); break;
            case 3: mayThrow(() -> page.run(a, b, on), ARGUMENT); break;
            case 4: mayThrow(() -> page.run(1 + (a & 7), 1 + (b & 7), on)); break;
            case 5: mayThrow(() -> page.layer(a & 3, b, c), STATE, PLACE); break;
            case 6: mayThrow(() -> page.layer(a, b, c), STATE, PLACE, ARGUMENT); break;
            case 7: mayThrow(() -> page.filled(a & 2, b, c) ? 1 : 0, STATE, PLACE); break;
            case 8: mayThrow(() -> page.filled(a, b, c) ? 1 : 0, STATE, PLACE, ARGUMENT); break;
            case 9: mayThrow(() -> page.joined(a, b), STATE, PLACE); break;
            case 10: mayThrow(() -> page.write(), STATE); break;
            case 11: mayThrow(() -> page.byteAt(a), PLACE); break;
            case 12: mayThrow(() -> page.feed(a), ARGUMENT, ROOM); break;
            case 13: mayThrow(() -> page.pass(on ? 0 : a, on ? 9999 : b), PLACE, ARGUMENT, ROOM); break;
            case 14: mayThrow(() -> page.alter(a, b), PLACE, ARGUMENT); break;
            case 15: mayThrow(() -> page.read()); break;
            case 16: mayThrow(() -> page.at(a, b), STATE, PLACE); break;
            default: mayThrow(() -> toldOrClear(r, page, a)); break;
        }
    }

    private static int toldOrClear(Random r, MaskLayers page, int what) {
        if (r.nextInt(4) > 0) {
            return page.told(what);
        }
        page.clear();
        return 0;
    }

    private static void mayThrow(Checks.Call call, String... names) {
        String got = "";
        boolean fine = true;
        try {
            call.answer();
        } catch (RuntimeException e) {
            got = e.toString();
            fine = false;
            for (String name : names) {
                fine |= e.getClass().getSimpleName().equals(name);
            }
            // What the machine finds in an index, it tells with the word 'bounds'.
            fine &= e.getMessage() != null && !e.getMessage().contains("bounds");
        }
        Checks.is("a wild call: " + got, fine, true);
    }
}
