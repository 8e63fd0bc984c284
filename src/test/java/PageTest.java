/** Promises 1 to 4, 16 and 17: the page, its stripes, what is told of it, and clear. */
public final class PageTest {
    public static void main(String[] args) {
        sizes();
        firstState();
        put();
        mask();
        stripes();
        told();
        clear();
        Checks.end();
    }

    private static void sizes() {
        int[] asked = {Integer.MIN_VALUE, -1, 0, 1, 2, 23, 24, 25, Integer.MAX_VALUE};
        int[] due = {1, 1, 1, 1, 2, 23, 24, 24, 24};
        for (int i = 0; i < asked.length; i++) {
            for (int k = 0; k < asked.length; k++) {
                MaskLayers page = new MaskLayers(asked[i], asked[k]);
                Checks.is("1: width of " + asked[i], page.told(0), due[i]);
                Checks.is("1: height of " + asked[k], page.told(1), due[k]);
                Checks.is("1: put in the last row", page.put(0, due[k] - 1, 99, 1), due[i]);
            }
        }
    }

    private static void firstState() {
        MaskLayers page = new MaskLayers(5, 7);
        for (int y = 0; y < 7; y++) {
            Checks.is("1: colours are 0", page.put(0, y, 5, 0), 0);
            Checks.is("1: none is masked", page.mask(0, y, 5, false), 0);
        }
        Checks.is("1: one stripe at first", page.told(2), 1);
        Checks.is("1: STEP is 24", new MaskLayers(1, 24).told(2), 1);
    }

    private static void put() {
        MaskLayers page = new MaskLayers(4, 3);
        Checks.is("2: put to the row's end", page.put(1, 1, Integer.MAX_VALUE, 16777215), 3);
        Checks.is("2: next row is as it was", page.put(0, 2, 4, 0), 0);
        Checks.is("2: put over some", page.put(0, 1, 3, 16777215), 1);
        Checks.is("2: put again", page.put(0, 1, 4, 16777215), 0);
        Checks.is("2: put one", page.put(3, 2, 1, 1), 1);
        Checks.noPlace("2: x below", () -> page.put(-1, 0, 1, 1));
        Checks.noPlace("2: x beyond", () -> page.put(4, 0, 1, 1));
        Checks.noPlace("2: y below", () -> page.put(0, -1, 1, 1));
        Checks.noPlace("2: y beyond", () -> page.put(0, 3, 1, 1));
        Checks.noPlace("2: no sample goes first", () -> page.put(0, 3, 0, -1));
        Checks.noPlace("2: far", () -> page.put(Integer.MAX_VALUE, Integer.MIN_VALUE, 1, 1));
        Checks.noArgument("2: n 0", () -> page.put(0, 0, 0, 1));
        Checks.noArgument("2: n below", () -> page.put(0, 0, Integer.MIN_VALUE, 1));
        Checks.noArgument("2: colour below", () -> page.put(0, 0, 1, -1));
        Checks.noArgument("2: colour beyond", () -> page.put(0, 0, 1, 16777216));
        Checks.is("2: a call that throws changes nothing", page.put(0, 0, 4, 0), 0);
    }

    private static void mask() {
        MaskLayers page = new MaskLayers(4, 3);
        Checks.is("3: mask to the row's end", page.mask(2, 0, 9, true), 2);
        Checks.is("3: next row is as it was", page.mask(0, 1, 9, false), 0);
        Checks.is("3: mask over some", page.mask(1, 0, 2, true), 1);
        Checks.is("3: told", page.told(3), 3);
        Checks.is("3: off", page.mask(0, 0, 3, false), 2);
        Checks.is("3: told", page.told(3), 1);
        Checks.is("3: off again", page.mask(0, 0, 3, false), 0);
        Checks.noPlace("3: x beyond", () -> page.mask(4, 0, 1, true));
        Checks.noPlace("3: x below", () -> page.mask(-1, 0, 1, true));
        Checks.noPlace("3: y beyond", () -> page.mask(0, 3, 1, true));
        Checks.noPlace("3: y below", () -> page.mask(0, -1, 1, true));
        Checks.noPlace("3: no sample goes first", () -> page.mask(0, 3, 0, true));
        Checks.noArgument("3: n 0", () -> page.mask(0, 0, 0, true));
        Checks.noArgument("3: n below", () -> page.mask(0, 0, -1, true));
        Checks.is("3: a call that throws changes nothing", page.told(3), 1);
    }

    private static void stripes() {
        for (int height = 1; height <= 24; height++) {
            MaskLayers page = new MaskLayers(2, height);
            for (int step = 1; step <= 24; step++) {
                int due = 0;
                for (int top = 0; top < height; top += step) {
                    due++;
                }
                Checks.is("4: stripe(" + step + ") of " + height, page.stripe(step), due);
                Checks.is("4: told(2)", page.told(2), due);
            }
        }
        MaskLayers page = new MaskLayers(2, 5);
        page.stripe(2);
        Checks.noArgument("4: step 0", () -> page.stripe(0));
        Checks.noArgument("4: step 25", () -> page.stripe(25));
        Checks.noArgument("4: step below", () -> page.stripe(Integer.MIN_VALUE));
        Checks.is("4: a call that throws changes nothing", page.told(2), 3);
    }

    private static void told() {
        MaskLayers page = new MaskLayers(6, 4);
        expectTold(page, 6, 4, 1, 0, 0, 0, 0, 0, 0);
        page.mask(0, 0, 6, true);
        page.stripe(1);
        page.run(8, 8, true);
        expectTold(page, 6, 4, 4, 6, 0, 0, 0, 0, 5);
        page.mask(0, 1, 6, true);
        page.stripe(2);
        expectTold(page, 6, 4, 2, 12, 0, 0, 0, 0, 5);
        int bytes = page.write();
        page.pass(0, 7);
        expectTold(page, 6, 4, 2, 12, bytes, 7, 0, 0, 5);
        page.pass(7, 9999);
        page.read();
        expectTold(page, 6, 4, 2, 12, bytes, bytes, 6, 4, 5);
        page.feed(0);
        Checks.is("16: refused", page.read(), -1 - bytes);
        expectTold(page, 6, 4, 2, 12, bytes, bytes + 1, 0, 0, 5);
        page.run(8, 8, true);
        expectTold(page, 6, 4, 2, 12, bytes, bytes + 1, 0, 0, 3);
        Checks.is("16: told(9)", page.told(9), MaskLayers.NONE);
        Checks.is("16: told(-1)", page.told(-1), MaskLayers.NONE);
        Checks.is("16: told(MAX)", page.told(Integer.MAX_VALUE), MaskLayers.NONE);
        Checks.is("16: told(MIN)", page.told(Integer.MIN_VALUE), MaskLayers.NONE);
    }

    private static void expectTold(MaskLayers page, int... due) {
        for (int what = 0; what < due.length; what++) {
            Checks.is("16: told(" + what + ")", page.told(what), due[what]);
        }
    }

    private static void clear() {
        MaskLayers page = new MaskLayers(6, 4);
        page.clear();
        expectTold(page, 6, 4, 1, 0, 0, 0, 0, 0, 0);
        for (int y = 0; y < 4; y++) {
            page.put(0, y, 6, 255);
            page.mask(0, y, 3, true);
        }
        page.stripe(1);
        page.run(1, 1, true);
        page.write();
        page.pass(0, 9999);
        Checks.is("17: read before", page.read(), 12);
        page.clear();
        expectTold(page, 6, 4, 1, 0, 0, 0, 0, 0, 0);
        Checks.noState("17: layer", () -> page.layer(0, 0, 0));
        Checks.noState("17: filled", () -> page.filled(0, 0, 0) ? 1 : 0);
        Checks.noState("17: joined", () -> page.joined(0, 0));
        Checks.noState("17: write", () -> page.write());
        Checks.noState("17: at", () -> page.at(0, 0));
        Checks.noPlace("17: byteAt", () -> page.byteAt(0));
        Checks.noPlace("17: pass", () -> page.pass(0, 0));
        Checks.noPlace("17: alter", () -> page.alter(0, 0));
        Checks.is("17: read", page.read(), -1);
        Checks.is("17: feed", page.feed(9), 1);
        for (int y = 0; y < 4; y++) {
            Checks.is("17: colours are 0", page.put(0, y, 6, 0), 0);
            Checks.is("17: none is masked", page.mask(0, y, 6, false), 0);
        }
        Checks.is("17: run", page.run(8, 8, true), 1);
        page.write();
        Checks.written("17: written", page, 77, 76, 6, 4, 24, 8, 8, 160, 0, 3, 0, 0, 0, 0, 175);
    }
}
