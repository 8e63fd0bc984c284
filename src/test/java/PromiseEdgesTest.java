import java.util.ArrayList;
import java.util.List;

/**
 * The boundary cases that the promises themselves name, sentence by sentence, and what the document
 * says of all calls that throw. Each object gets 512 calls at most.
 */
public final class PromiseEdgesTest {
    private static final int MIN = Integer.MIN_VALUE;
    private static final int MAX = Integer.MAX_VALUE;

    public static void main(String[] args) {
        putToTheEnd();
        putCounts();
        putArguments();
        maskToTheEnd();
        maskCounts();
        maskArguments();
        steps();
        scales();
        layerNone();
        layerArguments();
        filledArguments();
        joinedWithoutRest();
        writtenBefore();
        byteAt();
        feed();
        feedRoom();
        passSome();
        passRoom();
        alter();
        readRefused();
        atOfWhatWasRead();
        toldWithout();
        toldOthers();
        clear();
        noSample();
        noState();
        firstOfSeveral();
        throwingChangesNothing();
        lastCall();
        Checks.end();
    }

    private static void putToTheEnd() {
        Checks.says(2, "n to the right or as many as there are");
        int[] many = {1, 2, 3, 4, 5, 24, 25, MAX - 1, MAX};
        for (int n : many) {
            MaskLayers page = new MaskLayers(4, 2);
            Checks.is("from the left end, " + n, page.put(0, 0, n, 7), Math.min(4, n));
            Checks.is("the next row", page.put(0, 1, 4, 0), 0);
            Checks.is("from the third, " + n, page.put(2, 1, n, 7), Math.min(2, n));
            Checks.is("those before it", page.put(0, 1, 2, 0), 0);
            Checks.is("from the last", page.put(3, 0, n, 8), 1);
        }
    }

    private static void putCounts() {
        Checks.says(2, "how many had another one");
        MaskLayers page = new MaskLayers(24, 1);
        Checks.is("all", page.put(0, 0, 24, 5), 24);
        Checks.is("none", page.put(0, 0, 24, 5), 0);
        Checks.is("one", page.put(23, 0, 1, 6), 1);
        Checks.is("all but one", page.put(0, 0, 24, 6), 23);
        page.put(5, 0, 2, 0);
        Checks.is("two among them", page.put(0, 0, 24, 6), 2);
    }

    private static void putArguments() {
        Checks.says(2, "n is below 1, or the colour");
        MaskLayers page = new MaskLayers(4, 2);
        int[] wrong = {0, -1, MIN};
        for (int n : wrong) {
            Checks.noArgument("n " + n, () -> page.put(0, 0, n, 1));
            Checks.noArgument("n " + n + " at the last one", () -> page.put(3, 1, n, 1));
        }
        Checks.noArgument("the colour", () -> page.put(0, 0, 1, -1));
        Checks.noArgument("the colour", () -> page.put(0, 0, 1, 16777216));
        Checks.noArgument("both", () -> page.put(0, 0, 0, -1));
        Checks.is("n 1", page.put(0, 0, 1, 1), 1);
    }

    private static void maskToTheEnd() {
        Checks.says(3, "Samples likewise are MASKED from now on, or not");
        int[] many = {1, 2, 3, 4, 5, 24, 25, MAX - 1, MAX};
        for (int n : many) {
            MaskLayers page = new MaskLayers(4, 2);
            Checks.is("from the left end, " + n, page.mask(0, 0, n, true), Math.min(4, n));
            Checks.is("told", page.told(3), Math.min(4, n));
            Checks.is("from the third, " + n, page.mask(2, 1, n, true), Math.min(2, n));
            Checks.is("those before it", page.mask(0, 1, 2, false), 0);
            page.mask(0, 0, MAX, true);
            Checks.is("not any more", page.mask(1, 0, n, false), Math.min(3, n));
            Checks.is("told", page.told(3), 4 - Math.min(3, n) + Math.min(2, n));
        }
    }

    private static void maskCounts() {
        Checks.says(3, "for how many that is new");
        MaskLayers page = new MaskLayers(24, 1);
        Checks.is("for none", page.mask(0, 0, 24, false), 0);
        Checks.is("for one", page.mask(23, 0, 1, true), 1);
        Checks.is("for all but one", page.mask(0, 0, 24, true), 23);
        Checks.is("for none", page.mask(0, 0, 24, true), 0);
        Checks.is("for two", page.mask(4, 0, 2, false), 2);
        Checks.is("for all but two", page.mask(0, 0, 24, false), 22);
    }

    private static void maskArguments() {
        Checks.says(3, "n is below 1");
        MaskLayers page = new MaskLayers(4, 2);
        int[] wrong = {0, -1, MIN};
        for (int n : wrong) {
            Checks.noArgument("on, n " + n, () -> page.mask(0, 0, n, true));
            Checks.noArgument("off, n " + n, () -> page.mask(3, 1, n, false));
        }
        Checks.is("n 1", page.mask(0, 0, 1, true), 1);
    }

    private static void steps() {
        Checks.says(4, "STEP, 1 .. 24, from now on: how many stripes there are then");
        MaskLayers page = new MaskLayers(1, 24);
        int[] wrong = {MIN, -1, 0, 25, 26, MAX};
        for (int step : wrong) {
            Checks.noArgument("stripe(" + step + ")", () -> page.stripe(step));
        }
        int[] due = {24, 12, 8, 6, 5, 4, 4, 3, 3, 3, 3, 2, 2, 2, 2, 2, 2, 2, 2, 2, 2, 2, 2, 1};
        for (int step = 1; step <= 24; step++) {
            Checks.is("stripe(" + step + ")", page.stripe(step), due[step - 1]);
            Checks.is("told(2)", page.told(2), due[step - 1]);
            Checks.is("layers", page.run(8, 8, true), due[step - 1]);
        }
        MaskLayers low = new MaskLayers(1, 1);
        Checks.is("one row, STEP 1", low.stripe(1), 1);
        Checks.is("one row, STEP 24", low.stripe(24), 1);
    }

    private static void scales() {
        Checks.says(5, "RUN with a SCALE of the FORE and one of the BACK, 1 .. 8");
        MaskLayers page = new MaskLayers(2, 1);
        page.mask(0, 0, 1, true);
        int[] wrong = {MIN, -1, 0, 9, 10, 256, MAX};
        for (int scale : wrong) {
            Checks.noArgument("fore " + scale, () -> page.run(scale, 1, true));
            Checks.noArgument("back " + scale, () -> page.run(1, scale, true));
            Checks.noArgument("both " + scale, () -> page.run(scale, scale, false));
        }
        Checks.is("nothing was run", page.told(8), 0);
        for (int scale = 1; scale <= 8; scale++) {
            Checks.is("fore " + scale, page.run(scale, 1, true), 3);
            Checks.is("back " + scale, page.run(1, scale, true), 3);
        }
    }

    private static void layerNone() {
        Checks.says(6, "NONE if its stripe has no such LAYER");
        MaskLayers page = new MaskLayers(2, 4);
        page.stripe(1);
        page.mask(0, 1, 2, true);
        page.mask(0, 2, 1, true);
        page.mask(0, 3, 2, true);
        page.put(0, 3, 1, 8);
        page.run(2, 2, true);
        int[][] due = {{0, -1, -1, -1}, {-1, 1, 0, -1}, {0, 1, 0, -1}, {-1, 1, 4, 4}};
        for (int y = 0; y < 4; y++) {
            for (int layer = 0; layer < 4; layer++) {
                Checks.is("layer " + layer + " of row " + y, page.layer(layer, 0, y), due[y][layer]);
            }
        }
        Checks.is("1 or 0 of a MASK", page.layer(1, 1, 2), 0);
        Checks.is("the REST's three parts as a colour", page.layer(3, 1, 3), 0x0000FC);
    }

    private static void layerArguments() {
        Checks.says(6, "another number is none that is told");
        MaskLayers page = new MaskLayers(2, 2);
        page.run(1, 1, false);
        int[] wrong = {MIN, -1, 4, 5, MAX};
        for (int layer : wrong) {
            Checks.noArgument("layer " + layer, () -> page.layer(layer, 0, 0));
        }
        Checks.is("0", page.layer(0, 0, 0), 0);
        for (int layer = 1; layer < 4; layer++) {
            Checks.is("layer " + layer, page.layer(layer, 1, 1), MaskLayers.NONE);
        }
    }

    private static void filledArguments() {
        Checks.says(7, "Whether a sample's block in the BACK (0) or the FORE (2) is there and was FILLED. IllegalArgument: another layer.");
        MaskLayers page = new MaskLayers(2, 2);
        page.stripe(1);
        page.mask(1, 0, 1, true);
        page.run(1, 1, true);
        int[] wrong = {MIN, -1, 1, 3, 4, MAX};
        for (int layer : wrong) {
            Checks.noArgument("layer " + layer, () -> page.filled(layer, 0, 0) ? 1 : 0);
        }
        Checks.is("BACK, seen", page.filled(0, 0, 0), false);
        Checks.is("BACK, filled", page.filled(0, 1, 0), true);
        Checks.is("FORE, filled", page.filled(2, 0, 0), true);
        Checks.is("FORE, seen", page.filled(2, 1, 0), false);
        Checks.is("FORE, not there", page.filled(2, 0, 1), false);
        page.mask(0, 1, 2, true);
        page.run(1, 1, true);
        Checks.is("BACK, not there", page.filled(0, 0, 1), false);
        page.mask(0, 0, 2, false);
        page.run(1, 1, true);
        Checks.is("FORE, no longer there", page.filled(2, 0, 0), false);
        Checks.is("BACK, no longer filled", page.filled(0, 1, 0), false);
    }

    private static void joinedWithoutRest() {
        Checks.says(8, "JOINED from the LAYERS that were made, without the REST");
        MaskLayers page = new MaskLayers(2, 1);
        page.put(0, 0, 1, 255);
        Checks.is("with a REST", page.run(1, 2, true), 2);
        Checks.is("the mean", page.joined(0, 0), 128);
        Checks.is("the mean", page.joined(1, 0), 128);
    }

    private static void writtenBefore() {
        Checks.says(9, "those WRITTEN before are gone");
        MaskLayers page = new MaskLayers(4, 1);
        page.put(0, 0, 1, 9);
        page.mask(1, 0, 1, true);
        page.run(1, 1, true);
        Checks.is("many", page.write(), 33);
        Checks.is("the same again", page.write(), 33);
        Checks.is("told", page.told(4), 33);
        page.mask(1, 0, 1, false);
        page.run(8, 8, false);
        Checks.is("they stay till then", page.told(4), 33);
        Checks.is("they stay till then", page.byteAt(32), 175);
        Checks.is("few", page.write(), 15);
        Checks.is("told", page.told(4), 15);
        Checks.is("the last", page.byteAt(14), 175);
        Checks.noPlace("one more", () -> page.byteAt(15));
        Checks.noPlace("the last of those before", () -> page.byteAt(32));
    }

    private static void byteAt() {
        Checks.says(10, "IndexOutOfBounds: there is no such sample, or byte");
        MaskLayers page = new MaskLayers(1, 1);
        Checks.noPlace("none was WRITTEN", () -> page.byteAt(0));
        page.run(1, 1, true);
        Checks.noPlace("run, but none was WRITTEN", () -> page.byteAt(0));
        page.feed(77);
        Checks.noPlace("fed, but none was WRITTEN", () -> page.byteAt(0));
        page.write();
        Checks.is("the first", page.byteAt(0), 77);
        Checks.is("the last", page.byteAt(14), 175);
        int[] wrong = {MIN, -1, 15, 64, 6400, MAX};
        for (int i : wrong) {
            Checks.noPlace("byteAt(" + i + ")", () -> page.byteAt(i));
        }
    }

    private static void feed() {
        Checks.says(11, "One byte more is fed, 0 .. 255: how many were");
        MaskLayers page = new MaskLayers(1, 1);
        int[] wrong = {MIN, -1, 256, 257, MAX};
        for (int b : wrong) {
            Checks.noArgument("feed(" + b + ")", () -> page.feed(b));
        }
        Checks.is("none was", page.told(5), 0);
        for (int b = 0; b <= 255; b++) {
            Checks.is("feed(" + b + ")", page.feed(b), b + 1);
        }
        for (int b = 0; b <= 200; b += 50) {
            Checks.is("what was fed", page.alter(b, b), b);
        }
        Checks.is("what was fed", page.alter(255, 255), 255);
    }

    /** A page of one row for each stripe: 24 of them take 9 bytes each, the head 7, in all 223. */
    private static MaskLayers writtenPage() {
        MaskLayers page = new MaskLayers(24, 24);
        page.stripe(1);
        page.run(1, 1, true);
        Checks.is("how many are WRITTEN", page.write(), 223);
        return page;
    }

    /** Of 6,400 bytes so many are not fed. */
    private static MaskLayers withRoom(int room) {
        MaskLayers page = writtenPage();
        int fed = 0;
        while (fed + 223 <= 6400 - room) {
            fed += page.pass(0, 223);
        }
        fed += page.pass(0, 6400 - room - fed);
        Checks.is("how many were fed", fed, 6400 - room);
        Checks.is("how many were fed", page.told(5), 6400 - room);
        return page;
    }

    private static void feedRoom() {
        Checks.says(11, "UnsupportedOperation: there are 6,400");
        MaskLayers page = withRoom(2);
        Checks.is("the last but one", page.feed(1), 6399);
        Checks.is("the last", page.feed(2), 6400);
        Checks.noRoom("one more", () -> page.feed(3));
        Checks.noRoom("once more", () -> page.feed(0));
        Checks.is("told", page.told(5), 6400);
        Checks.is("the last one", page.alter(6399, 0), 2);
        Checks.noArgument("no byte goes before no room", () -> page.feed(256));
        page.clear();
        Checks.is("there is room again", page.feed(3), 1);
    }

    private static void passSome() {
        Checks.says(12, "Bytes that were WRITTEN are fed, from one on, n or as many as there are: how many");
        MaskLayers page = new MaskLayers(1, 1);
        page.put(0, 0, 1, 0x010203);
        page.run(1, 1, true);
        page.write();
        Checks.is("none", page.pass(0, 0), 0);
        Checks.is("none from the last", page.pass(14, 0), 0);
        Checks.is("told", page.told(5), 0);
        Checks.is("one", page.pass(11, 1), 1);
        Checks.is("two", page.pass(12, 2), 2);
        Checks.is("the last", page.pass(14, 1), 1);
        Checks.is("n is more than there are", page.pass(13, 3), 2);
        Checks.is("n is far more", page.pass(14, MAX), 1);
        Checks.is("all", page.pass(0, 15), 15);
        Checks.is("all, and one more", page.pass(0, 16), 15);
        Checks.is("told", page.told(5), 37);
        int[] due = {1, 2, 3, 175, 3, 175, 175, 77, 76, 1};
        for (int i = 0; i < due.length; i++) {
            Checks.is("fed byte " + i, page.alter(i, due[i]), due[i]);
        }
        Checks.is("they stay WRITTEN", page.told(4), 15);
        Checks.says(12, "IndexOutOfBounds: there is no such sample, or byte");
        int[] wrong = {MIN, -1, 15, 16, MAX};
        for (int from : wrong) {
            Checks.noPlace("from " + from, () -> page.pass(from, 1));
            Checks.noPlace("from " + from + ", none", () -> page.pass(from, 0));
        }
        Checks.says(12, "n is below 0");
        Checks.noArgument("-1", () -> page.pass(0, -1));
        Checks.noArgument("far below", () -> page.pass(14, MIN));
    }

    private static void passRoom() {
        Checks.says(12, "UnsupportedOperation: there is no room");
        MaskLayers page = withRoom(3);
        Checks.noRoom("four", () -> page.pass(0, 4));
        Checks.noRoom("as many as there are", () -> page.pass(0, MAX));
        Checks.noRoom("as many as there are, four", () -> page.pass(219, MAX));
        Checks.is("none was fed", page.told(5), 6397);
        Checks.noArgument("n goes first", () -> page.pass(0, -1));
        Checks.noPlace("no byte goes first", () -> page.pass(223, MAX));
        Checks.is("as many as there are, two", page.pass(221, MAX), 2);
        Checks.is("one", page.pass(222, 1), 1);
        Checks.is("6,400", page.told(5), 6400);
        Checks.is("none needs no room", page.pass(0, 0), 0);
        Checks.noRoom("one more", () -> page.pass(0, 1));
        Checks.is("just as many", withRoom(223).pass(0, 223), 223);
        MaskLayers less = withRoom(222);
        Checks.noRoom("one too many", () -> less.pass(0, 223));
        Checks.is("all but one", less.pass(1, 223), 222);
    }

    private static void alter() {
        Checks.says(13, "A byte that was fed becomes another one: what it was");
        MaskLayers page = new MaskLayers(1, 1);
        Checks.noPlace("none was fed", () -> page.alter(0, 0));
        page.run(1, 1, true);
        page.write();
        Checks.noPlace("WRITTEN, but none was fed", () -> page.alter(0, 0));
        Checks.feedAll(page, 10, 20, 30);
        Checks.is("the first", page.alter(0, 255), 10);
        Checks.is("the last", page.alter(2, 0), 30);
        Checks.is("the first again", page.alter(0, 1), 255);
        Checks.is("the last again", page.alter(2, 1), 0);
        Checks.is("to what it is", page.alter(1, 20), 20);
        int[] places = {MIN, -1, 3, 64, 6400, MAX};
        for (int i : places) {
            Checks.noPlace("alter(" + i + ", 0)", () -> page.alter(i, 0));
        }
        int[] wrong = {MIN, -1, 256, MAX};
        for (int b : wrong) {
            Checks.noArgument("alter(0, " + b + ")", () -> page.alter(0, b));
        }
        Checks.is("how many were fed", page.told(5), 3);
        Checks.is("what is WRITTEN is not altered", page.byteAt(0), 77);
    }

    private static void readRefused() {
        Checks.says(14, "-1 less the place at which it was REFUSED (nothing is READ then)");
        MaskLayers page = new MaskLayers(2, 1);
        Checks.is("no bytes: at 0", page.read(), -1);
        page.run(1, 1, true);
        int many = page.write();
        page.pass(0, many);
        Checks.is("how many LAYERS", page.read(), 1);
        Checks.is("READ", page.told(6), 2);
        page.alter(many - 1, 0);
        Checks.is("at the last one", page.read(), -many);
        Checks.is("no width", page.told(6), 0);
        Checks.is("no height", page.told(7), 0);
        Checks.noState("nothing is READ", () -> page.at(0, 0));
        page.alter(many - 1, 175);
        Checks.is("READ again", page.read(), 1);
        Checks.is("READ again", page.at(1, 0), 0);
        page.alter(0, 0);
        Checks.is("at 0", page.read(), -1);
        Checks.noState("nothing is READ", () -> page.at(0, 0));
        MaskLayers full = withRoom(0);
        Checks.is("a byte behind all, of 6,400", full.read(), -1 - 223);
    }

    private static void atOfWhatWasRead() {
        Checks.says(15, "IndexOutOfBounds: it has no such sample");
        MaskLayers small = new MaskLayers(2, 2);
        Checks.feedAll(small, 77, 76, 24, 3, 24, 1, 8, 160, 0, 9, 0, 1, 1, 1, 2, 2, 2, 3, 3, 3, 175);
        small.read();
        Checks.is("beyond the page's own", small.at(23, 2), 0x030303);
        Checks.noPlace("a column more", () -> small.at(24, 0));
        Checks.noPlace("a row more", () -> small.at(0, 3));
        MaskLayers large = new MaskLayers(24, 24);
        Checks.feedAll(large, 77, 76, 1, 2, 24, 1, 8, 160, 0, 3, 0, 1, 1, 1, 175);
        large.read();
        Checks.is("the last", large.at(0, 1), 0x010101);
        Checks.noPlace("one that the page has", () -> large.at(1, 0));
        Checks.noPlace("one that the page has", () -> large.at(0, 2));
        Checks.noPlace("below", () -> large.at(-1, 0));
        Checks.noPlace("below", () -> large.at(0, -1));
        Checks.noPlace("far", () -> large.at(MAX, MIN));
    }

    private static void toldWithout() {
        Checks.says(16, "each 0 without such");
        MaskLayers page = new MaskLayers(3, 2);
        expectTold(page, 3, 2, 1, 0, 0, 0, 0, 0, 0);
        page.mask(0, 0, 3, true);
        expectTold(page, 3, 2, 1, 3, 0, 0, 0, 0, 0);
        page.run(8, 8, true);
        expectTold(page, 3, 2, 1, 3, 0, 0, 0, 0, 3);
        page.stripe(1);
        expectTold(page, 3, 2, 2, 3, 0, 0, 0, 0, 3);
        Checks.is("bytes", page.write(), 27);
        expectTold(page, 3, 2, 2, 3, 27, 0, 0, 0, 3);
        page.pass(0, 27);
        expectTold(page, 3, 2, 2, 3, 27, 27, 0, 0, 3);
        page.read();
        expectTold(page, 3, 2, 2, 3, 27, 27, 3, 2, 3);
        page.mask(0, 0, 3, false);
        expectTold(page, 3, 2, 2, 0, 27, 27, 3, 2, 3);
    }

    private static void expectTold(MaskLayers page, int... due) {
        for (int what = 0; what < due.length; what++) {
            Checks.is("told(" + what + ")", page.told(what), due[what]);
        }
    }

    private static void toldOthers() {
        Checks.says(16, "NONE for another what");
        MaskLayers page = new MaskLayers(3, 2);
        int[] others = {MIN, -2, -1, 9, 10, MAX};
        for (int what : others) {
            Checks.is("told(" + what + ")", page.told(what), -1);
        }
    }

    private static void clear() {
        Checks.says(17, "All is as at first, but for the sizes");
        MaskLayers page = usedPage();
        page.clear();
        expectAtFirst(page);
        page.clear();
        expectAtFirst(page);
    }

    private static void expectAtFirst(MaskLayers page) {
        expectTold(page, 3, 2, 1, 0, 0, 0, 0, 0, 0);
        Checks.noState("layer", () -> page.layer(0, 0, 0));
        Checks.noState("filled", () -> page.filled(0, 0, 0) ? 1 : 0);
        Checks.noState("joined", () -> page.joined(0, 0));
        Checks.noState("write", () -> page.write());
        Checks.noState("at", () -> page.at(0, 0));
        Checks.noPlace("byteAt", () -> page.byteAt(0));
        Checks.noPlace("pass", () -> page.pass(0, 0));
        Checks.noPlace("alter", () -> page.alter(0, 0));
        Checks.is("read", page.read(), -1);
        for (int y = 0; y < 2; y++) {
            Checks.is("colours", page.put(0, y, 3, 0), 0);
            Checks.is("masked", page.mask(0, y, 3, false), 0);
        }
        Checks.is("run", page.run(1, 1, true), 1);
        Checks.is("no REST", page.layer(3, 0, 0), MaskLayers.NONE);
        Checks.is("nothing FILLED", page.filled(0, 2, 0), false);
        page.write();
        Checks.written("written", page, 77, 76, 3, 2, 24, 1, 1, 160, 1, 4, 0, 6, 0, 0, 0, 175);
        page.clear();
    }

    private static void noSample() {
        Checks.says(2, "IndexOutOfBounds: there is no such sample, or byte");
        MaskLayers page = usedPage();
        int[][] places = {{-1, 0}, {0, -1}, {3, 0}, {0, 2}, {3, 2}, {-1, -1}, {MAX, 0}, {0, MAX}, {MIN, 0}, {0, MIN}, {-3, 1}, {4, -1}};
        for (int[] p : places) {
            String at = p[0] + ", " + p[1];
            Checks.noPlace("put at " + at, () -> page.put(p[0], p[1], 1, 1));
            Checks.noPlace("mask at " + at, () -> page.mask(p[0], p[1], 1, true));
            Checks.noPlace("layer at " + at, () -> page.layer(0, p[0], p[1]));
            Checks.noPlace("filled at " + at, () -> page.filled(0, p[0], p[1]) ? 1 : 0);
            Checks.noPlace("joined at " + at, () -> page.joined(p[0], p[1]));
            Checks.noPlace("at at " + at, () -> page.at(p[0], p[1]));
        }
    }

    private static void noState() {
        Checks.says(6, "IllegalState: nothing was run; nothing was READ");
        MaskLayers page = new MaskLayers(3, 2);
        expectNotRun(page);
        page.put(0, 0, 3, 9);
        page.stripe(1);
        expectNotRun(page);
        Checks.noArgument("a run that throws", () -> page.run(0, 1, true));
        expectNotRun(page);
        Checks.feedAll(page, 77, 76, 1, 1, 1, 1, 1, 160, 0, 3, 0, 1, 2, 3, 175);
        Checks.noState("fed, but nothing was READ", () -> page.at(0, 0));
        page.read();
        expectNotRun(page);
        Checks.is("READ", page.at(0, 0), 0x010203);
        MaskLayers ran = new MaskLayers(3, 2);
        ran.run(1, 1, true);
        ran.write();
        ran.pass(0, MAX);
        Checks.noState("run, WRITTEN and fed, but nothing was READ", () -> ran.at(0, 0));
    }

    private static void expectNotRun(MaskLayers page) {
        Checks.noState("layer", () -> page.layer(0, 0, 0));
        Checks.noState("filled", () -> page.filled(0, 0, 0) ? 1 : 0);
        Checks.noState("joined", () -> page.joined(0, 0));
        Checks.noState("write", () -> page.write());
    }

    private static void firstOfSeveral() {
        Checks.says(2, "Of several that a call names, the first one");
        MaskLayers first = new MaskLayers(3, 2);
        Checks.noPlace("put: sample, n, colour", () -> first.put(3, 0, 0, -1));
        Checks.noPlace("mask: sample, n", () -> first.mask(0, 2, 0, true));
        Checks.noState("layer: state, sample, layer", () -> first.layer(4, 3, 2));
        Checks.noState("layer: state, layer", () -> first.layer(4, 0, 0));
        Checks.noState("filled: state, sample, layer", () -> first.filled(1, 3, 2) ? 1 : 0);
        Checks.noState("filled: state, layer", () -> first.filled(1, 0, 0) ? 1 : 0);
        Checks.noState("joined: state, sample", () -> first.joined(3, 2));
        Checks.noState("at: state, sample", () -> first.at(24, 24));
        Checks.noPlace("pass: byte, n", () -> first.pass(0, -1));
        Checks.noPlace("alter: byte, b", () -> first.alter(0, 256));
        first.run(1, 1, true);
        Checks.noPlace("layer: sample, layer", () -> first.layer(4, 3, 2));
        Checks.noPlace("filled: sample, layer", () -> first.filled(1, 3, 2) ? 1 : 0);
        MaskLayers full = withRoom(0);
        Checks.noArgument("feed: b, room", () -> full.feed(-1));
        Checks.noPlace("pass: byte, n, room", () -> full.pass(223, -1));
        Checks.noPlace("pass: byte, room", () -> full.pass(-1, 1));
        Checks.noArgument("pass: n, room", () -> full.pass(0, -1));
        Checks.noRoom("pass: room", () -> full.pass(222, 1));
    }

    /** A page with all there can be: colours, a mask, a STEP, LAYERS, bytes of both sorts, a READ page. */
    private static MaskLayers usedPage() {
        MaskLayers page = new MaskLayers(3, 2);
        page.put(0, 0, 1, 0x0A0B0C);
        page.put(2, 1, 1, 0xFFFFFF);
        page.mask(2, 0, 1, true);
        page.stripe(1);
        Checks.is("a used page's run", page.run(2, 3, true), 6);
        page.write();
        page.pass(0, MAX);
        Checks.is("a used page's reading", page.read(), 6);
        page.stripe(2);
        page.put(0, 0, 1, 77);
        page.mask(0, 1, 1, true);
        return page;
    }

    /** All that calls can tell of a used page; it is left as it was. */
    private static List<Long> stateOf(MaskLayers page) {
        List<Long> state = new ArrayList<>();
        for (int what = 0; what <= 8; what++) {
            state.add((long) page.told(what));
        }
        for (int i = 0; i < 6; i++) {
            int x = i % 3;
            int y = i / 3;
            for (int layer = 0; layer < 4; layer++) {
                state.add((long) page.layer(layer, x, y));
            }
            state.add(page.filled(0, x, y) ? 1L : 0L);
            state.add(page.filled(2, x, y) ? 1L : 0L);
            state.add((long) page.joined(x, y));
            state.add((long) page.at(x, y));
        }
        int many = page.told(4);
        for (int i = 0; i < many; i++) {
            state.add((long) page.byteAt(i));
        }
        return state;
    }

    private static void throwingChangesNothing() {
        Checks.says(2, "A call that throws changes nothing");
        List<Checks.Call> calls = new ArrayList<>();
        MaskLayers[] page = new MaskLayers[1];
        calls.add(() -> page[0].put(3, 0, 1, 1));
        calls.add(() -> page[0].put(0, 0, 0, 1));
        calls.add(() -> page[0].put(0, 0, 3, 16777216));
        calls.add(() -> page[0].put(0, 0, 3, -1));
        calls.add(() -> page[0].mask(0, 2, 1, true));
        calls.add(() -> page[0].mask(0, 0, 0, true));
        calls.add(() -> page[0].stripe(0));
        calls.add(() -> page[0].stripe(25));
        calls.add(() -> page[0].run(0, 1, false));
        calls.add(() -> page[0].run(1, 9, false));
        calls.add(() -> page[0].layer(4, 0, 0));
        calls.add(() -> page[0].layer(0, 3, 0));
        calls.add(() -> page[0].filled(1, 0, 0) ? 1 : 0);
        calls.add(() -> page[0].joined(0, 2));
        calls.add(() -> page[0].byteAt(-1));
        calls.add(() -> page[0].feed(256));
        calls.add(() -> page[0].feed(-1));
        calls.add(() -> page[0].pass(-1, 1));
        calls.add(() -> page[0].pass(0, -1));
        calls.add(() -> page[0].alter(999, 0));
        calls.add(() -> page[0].alter(0, 256));
        calls.add(() -> page[0].alter(0, -1));
        calls.add(() -> page[0].at(3, 0));
        for (int k = 0; k < calls.size(); k++) {
            page[0] = usedPage();
            List<Long> before = stateOf(page[0]);
            Checks.is("call " + k + " throws", threw(calls.get(k)), true);
            Checks.is("call " + k + " changes nothing", stateOf(page[0]).equals(before), true);
            expectPageAsUsed("call " + k, page[0]);
        }
        MaskLayers full = withRoom(1);
        Checks.is("pass without room throws", threw(() -> full.pass(0, 2)), true);
        Checks.is("and feeds none", full.told(5), 6399);
        Checks.is("nor one of them", full.feed(9), 6400);
        Checks.is("feed without room throws", threw(() -> full.feed(8)), true);
        Checks.is("and changes none", full.alter(6399, 0), 9);
    }

    private static boolean threw(Checks.Call call) {
        try {
            call.answer();
            return false;
        } catch (RuntimeException e) {
            return true;
        }
    }

    /** Colours, mask and fed bytes are told only by calls that change them, to what they are. */
    private static void expectPageAsUsed(String what, MaskLayers page) {
        int[] colours = {77, 0, 0, 0, 0, 0xFFFFFF};
        boolean[] masked = {false, false, true, true, false, false};
        for (int i = 0; i < 6; i++) {
            Checks.is(what + ", colour of sample " + i, page.put(i % 3, i / 3, 1, colours[i]), 0);
            Checks.is(what + ", mask of sample " + i, page.mask(i % 3, i / 3, 1, masked[i]), 0);
        }
        int many = page.told(4);
        for (int i = 0; i < many; i++) {
            int due = page.byteAt(i);
            Checks.is(what + ", fed byte " + i, page.alter(i, due), due);
        }
    }

    private static void lastCall() {
        Checks.says(1, "An object is used for at most 512 calls after it has been made");
        MaskLayers page = new MaskLayers(24, 24);
        for (int call = 1; call <= 511; call++) {
            Checks.is("call " + call, page.put(call % 24, call / 24, 1, call), 1);
        }
        Checks.is("call 512", page.run(8, 8, true), 2);
    }
}
