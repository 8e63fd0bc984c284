import java.util.Arrays;

/**
 * The boundary cases that the document names of READING and of what was READ, sentence by sentence:
 * each method tests one sentence, which it quotes with the promise that it bears on.
 */
public final class ReadingEdgesTest {
    private static final int[] HEAD = {77, 76, 1, 1, 1, 1, 1};
    /** A BACK of one block. */
    private static final int[] BACK = {160, 0, 3, 0, 1, 2, 3};
    /** A MASK of one sample. */
    private static final int[] MASK = {161, 0, 1, 0, 128};
    private static final int[] FORE = {162, 0, 3, 0, 4, 5, 6};
    private static final int[] REST = {163, 0, 3, 0, 7, 8, 9};
    private static final int[] END = {175};

    public static void main(String[] args) {
        allBytes();
        firstOfSeveral();
        letters();
        sizes();
        unknownMarks();
        marksRise();
        foreWithoutMask();
        restWithout();
        endWithoutFore();
        endWithNeither();
        kinds();
        plainNumbers();
        plainNumbersFirst();
        samplesNotThere();
        runLengths();
        maskValues();
        runNumbers();
        behindAll();
        lacking();
        lastStripe();
        layerNotThere();
        restMore();
        Checks.end();
    }

    private static int[] of(int[]... parts) {
        int[] all = new int[0];
        for (int[] part : parts) {
            int before = all.length;
            all = Arrays.copyOf(all, before + part.length);
            System.arraycopy(part, 0, all, before, part.length);
        }
        return all;
    }

    private static int[] bytes(int... values) {
        return values;
    }

    private static int[] with(int[] all, int place, int b) {
        int[] others = all.clone();
        others[place] = b;
        return others;
    }

    private static MaskLayers fed(int[] all) {
        MaskLayers page = new MaskLayers(1, 1);
        Checks.feedAll(page, all);
        return page;
    }

    private static void fine(String what, int layers, int[]... parts) {
        Checks.is(what, fed(of(parts)).read(), layers);
    }

    private static void refused(String what, int place, int[]... parts) {
        MaskLayers page = fed(of(parts));
        Checks.is(what, page.read(), -1 - place);
        Checks.is(what + ", told(6)", page.told(6), 0);
        Checks.noState(what + ", at", () -> page.at(0, 0));
    }

    private static void allBytes() {
        Checks.says(14, "READING goes through all bytes that were fed");
        MaskLayers page = fed(of(HEAD, BACK));
        Checks.is("a part of them", page.read(), -15);
        Checks.is("the last one", page.feed(175), 15);
        Checks.is("from the first one on", page.read(), 1);
        Checks.is("and again", page.read(), 1);
        Checks.is("they stay", page.told(5), 15);
        Checks.is("another one", page.alter(13, 9), 3);
        Checks.is("what was READ stays", page.at(0, 0), 0x010203);
        Checks.is("once more", page.read(), 1);
        Checks.is("is READ anew", page.at(0, 0), 0x010209);
    }

    private static void firstOfSeveral() {
        Checks.says(14, "It is REFUSED at the first byte that can't be");
        int[] wrong = new int[15];
        int[] right = of(HEAD, BACK, END);
        for (int i = 0; i < 15; i++) {
            wrong[i] = 200;
        }
        int[] places = {0, 1, 2, 3, 4, 5, 6, 7, 8, 9, 9, 14, 14, 14, 14};
        for (int i = 0; i < 15; i++) {
            refused("all from byte " + i + " on", places[i], Arrays.copyOf(right, i), Arrays.copyOfRange(wrong, i, 15));
        }
    }

    private static void letters() {
        Checks.says(14, "the two letters");
        int[] all = of(HEAD, BACK, END);
        int[] firsts = {0, 76, 78, 109, 255};
        for (int b : firsts) {
            refused("first " + b, 0, with(all, 0, b));
        }
        int[] seconds = {0, 75, 77, 108, 255};
        for (int b : seconds) {
            refused("second " + b, 1, with(all, 1, b));
        }
        refused("both the other way", 0, with(with(all, 0, 76), 1, 77));
    }

    private static void sizes() {
        Checks.says(14, "a size, STEP or SCALE (1 .. 8) that is none");
        int[] all = of(HEAD, BACK, END);
        int[] most = {0, 0, 24, 24, 24, 8, 8};
        for (int i = 2; i < 7; i++) {
            refused("none", i, with(all, i, 0));
            refused("one too large", i, with(all, i, most[i] + 1));
            refused("far too large", i, with(all, i, 255));
        }
        for (int i = 4; i < 7; i++) {
            for (int b = 1; b <= most[i]; b++) {
                fine("byte " + i + " is " + b, 1, with(all, i, b));
            }
        }
        for (int size = 1; size <= 24; size++) {
            int[] run = {160, 1, 4, 0, size, 1, 2, 3};
            fine("width " + size, 1, with(HEAD, 2, size), run, END);
            fine("height " + size, 1, with(with(HEAD, 3, size), 4, 24), run, END);
        }
    }

    private static void unknownMarks() {
        Checks.says(14, "a mark that is not 160 .. 163 or 175");
        int[] none = {0, 1, 96, 128, 159, 164, 165, 170, 173, 174, 176, 224, 255};
        int[] twoStripes = with(HEAD, 3, 2);
        for (int mark : none) {
            refused("at first: " + mark, 7, HEAD, bytes(mark), END);
            refused("behind the BACK: " + mark, 14, HEAD, BACK, bytes(mark), END);
            refused("behind the MASK: " + mark, 12, HEAD, MASK, bytes(mark), END);
            refused("behind the REST: " + mark, 21, HEAD, BACK, REST, bytes(mark), END);
            refused("in the next stripe: " + mark, 15, twoStripes, BACK, END, bytes(mark), END);
        }
        fine("all marks", 4, HEAD, BACK, MASK, FORE, REST, END);
    }

    private static void marksRise() {
        Checks.says(14, "is not above the one before in its stripe");
        refused("BACK, BACK", 14, HEAD, BACK, BACK, END);
        refused("MASK, MASK", 12, HEAD, MASK, MASK, FORE, END);
        refused("MASK, BACK", 12, HEAD, MASK, BACK, FORE, END);
        refused("FORE, FORE", 19, HEAD, MASK, FORE, FORE, END);
        refused("FORE, MASK", 19, HEAD, MASK, FORE, MASK, END);
        refused("FORE, BACK", 19, HEAD, MASK, FORE, BACK, END);
        refused("REST, REST", 21, HEAD, BACK, REST, REST, END);
        refused("REST, FORE", 33, HEAD, BACK, MASK, FORE, REST, FORE, END);
        refused("REST, MASK", 21, HEAD, BACK, REST, MASK, FORE, END);
        refused("REST, BACK", 26, HEAD, MASK, FORE, REST, BACK, END);
        int[] twoStripes = with(HEAD, 3, 2);
        fine("anew in the next stripe", 2, twoStripes, BACK, END, BACK, END);
        fine("lower in the next stripe", 5, twoStripes, MASK, FORE, REST, END, BACK, REST, END);
        refused("but not in it", 22, twoStripes, BACK, END, BACK, BACK, END);
        fine("without those between", 2, HEAD, BACK, REST, END);
    }

    private static void foreWithoutMask() {
        Checks.says(14, "162 without a MASK");
        refused("at first", 7, HEAD, FORE, END);
        refused("behind the BACK", 14, HEAD, BACK, FORE, END);
        refused("the stripe before had one", 20, with(HEAD, 3, 2), MASK, FORE, END, FORE, END);
        fine("with one", 2, HEAD, MASK, FORE, END);
        fine("with one that masks none", 2, HEAD, with(MASK, 4, 0), FORE, END);
    }

    private static void restWithout() {
        Checks.says(14, "163 with neither BACK nor FORE");
        refused("at first", 7, HEAD, REST, END);
        refused("behind the MASK", 12, HEAD, MASK, REST, END);
        refused("the stripe before had a BACK", 15, with(HEAD, 3, 2), BACK, END, REST, END);
        refused("the stripe before had a FORE", 25, with(HEAD, 3, 2), MASK, FORE, END, MASK, REST, END);
        fine("with a BACK", 2, HEAD, BACK, REST, END);
        fine("with a FORE", 3, HEAD, MASK, FORE, REST, END);
        fine("with both", 4, HEAD, BACK, MASK, FORE, REST, END);
    }

    private static void endWithoutFore() {
        Checks.says(14, "175 with a MASK and no FORE");
        refused("MASK", 12, HEAD, MASK, END);
        refused("BACK, MASK", 19, HEAD, BACK, MASK, END);
        refused("BACK, MASK that masks none", 19, HEAD, BACK, with(MASK, 4, 0), END);
        refused("BACK, MASK, REST", 26, HEAD, BACK, MASK, REST, END);
        refused("the stripe before had one", 25, with(HEAD, 3, 2), MASK, FORE, END, MASK, END);
        fine("with a FORE", 2, HEAD, MASK, FORE, END);
        fine("no MASK, no FORE", 1, HEAD, BACK, END);
    }

    private static void endWithNeither() {
        Checks.says(14, "or with neither BACK nor FORE");
        refused("at first", 7, HEAD, END);
        refused("in the next stripe", 15, with(HEAD, 3, 2), BACK, END, END);
        refused("in the next stripe", 20, with(HEAD, 3, 2), MASK, FORE, END, END);
        fine("BACK", 1, HEAD, BACK, END);
        fine("FORE", 2, HEAD, MASK, FORE, END);
    }

    private static void kinds() {
        Checks.says(14, "a KIND above 1");
        int[] all = of(HEAD, BACK, MASK, FORE, REST, END);
        int[] places = {8, 15, 20, 27};
        int[] wrong = {2, 3, 128, 160, 161, 162, 163, 175, 255};
        for (int place : places) {
            for (int kind : wrong) {
                refused("KIND " + kind, place, with(all, place, kind));
            }
        }
        refused("KIND 175, as if the stripe ended", 27, HEAD, BACK, MASK, FORE, bytes(163, 175));
        fine("KIND 1 of all", 4, HEAD, bytes(160, 1, 4, 0, 1, 1, 2, 3), bytes(161, 1, 2, 0, 1, 1),
            bytes(162, 1, 4, 0, 1, 4, 5, 6), bytes(163, 1, 4, 0, 1, 7, 8, 9), END);
    }

    private static void plainNumbers() {
        Checks.says(14, "for KIND 0 a number of bytes (told at its first one) that is not as many");
        int[] all = of(HEAD, BACK, MASK, FORE, REST, END);
        int[] places = {9, 16, 21, 28};
        for (int place : places) {
            refused("none", place, with(all, place, 0));
            refused("one fewer", place, with(all, place, all[place] - 1));
            refused("one more", place, with(all, place, all[place] + 1));
            refused("255", place, with(all, place, 255));
            refused("256 more", place, with(all, place + 1, 1));
            refused("65280 more", place, with(all, place + 1, 255));
        }
        int[] large = of(bytes(77, 76, 12, 8, 24, 1, 1, 160, 0, 32, 1), new int[288], END);
        fine("288", 1, large);
        refused("256 fewer", 9, with(large, 10, 0));
        refused("256 more", 9, with(large, 10, 2));
        refused("one more", 9, with(large, 9, 33));
        refused("one fewer", 9, with(large, 9, 31));
        refused("upper byte first", 9, with(with(large, 9, 1), 10, 32));
        for (int width = 1; width <= 24; width++) {
            int takes = width <= 8 ? 1 : width <= 16 ? 2 : 3;
            int[] front = {77, 76, width, 1, 1, 8, 8, 161, 0};
            int[] end = {162, 1, 4, 0, takes, 0, 0, 0, 175};
            fine("a MASK of " + width, 2, front, bytes(takes, 0), new int[takes], end);
            refused("a MASK of " + width + ", one more", 9, front, bytes(takes + 1, 0), new int[takes + 1], end);
            refused("a MASK of " + width + ", one fewer", 9, front, bytes(takes - 1, 0), new int[takes - 1], end);
        }
    }

    private static void plainNumbersFirst() {
        Checks.says(14, "for KIND 0 a number of bytes (told at its first one)");
        refused("before the values lack", 9, HEAD, bytes(160, 0, 4, 0));
        refused("before a MASK's byte", 9, HEAD, bytes(161, 0, 2, 0, 255));
        refused("its second byte lacks", 10, HEAD, bytes(160, 0, 3));
        refused("both lack", 9, HEAD, bytes(160, 0));
    }

    private static void samplesNotThere() {
        Checks.says(14, "a byte of a MASK whose samples that are not there are not 0");
        int[] end = {162, 1, 4, 0, 1, 0, 0, 0, 175};
        for (int width = 1; width <= 8; width++) {
            int[] front = {77, 76, width, 1, 1, 8, 8, 161, 0, 1, 0};
            for (int bit = 0; bit < 8; bit++) {
                if (bit < width) {
                    fine("sample " + bit + " of " + width, 2, front, bytes(128 >> bit), end);
                } else {
                    refused("sample " + bit + " of " + width, 11, front, bytes(128 >> bit), end);
                }
            }
        }
        int[] rows = {77, 76, 3, 3, 24, 8, 8, 161, 0, 2, 0};
        fine("nine samples", 2, rows, bytes(255, 128), end);
        refused("a tenth", 12, rows, bytes(255, 192), end);
        refused("a sixteenth", 12, rows, bytes(0, 1), end);
        refused("before a byte that lacks", 12, rows, bytes(0, 1));
        refused("two stripes have their own bytes", 11, bytes(77, 76, 3, 3, 2, 8, 8, 161, 0, 1, 0, 255), end);
    }

    private static void runLengths() {
        Checks.says(14, "a run of 0, or that goes beyond the last value");
        int[] front = {77, 76, 5, 2, 24, 1, 1, 160, 1};
        fine("just all", 1, front, bytes(4, 0, 10, 1, 2, 3), END);
        refused("one beyond", 11, front, bytes(4, 0, 11, 1, 2, 3), END);
        refused("far beyond", 11, front, bytes(4, 0, 255, 1, 2, 3), END);
        refused("0 at first", 11, front, bytes(8, 0, 0, 1, 2, 3, 10, 1, 2, 3), END);
        fine("two runs", 1, front, bytes(8, 0, 9, 1, 2, 3, 1, 1, 2, 3), END);
        refused("the second one beyond", 15, front, bytes(8, 0, 9, 1, 2, 3, 2, 1, 2, 3), END);
        refused("the second one 0", 15, front, bytes(12, 0, 9, 1, 2, 3, 0, 1, 2, 3, 1, 1, 2, 3), END);
        refused("before its value lacks", 15, front, bytes(8, 0, 9, 1, 2, 3, 0));
        refused("of one stripe alone", 11, bytes(77, 76, 5, 2, 1, 1, 1, 160, 1, 4, 0, 10, 1, 2, 3), END);
        refused("by blocks, not samples", 11, bytes(77, 76, 5, 2, 24, 1, 2, 160, 1, 4, 0, 4, 1, 2, 3), END);
        fine("by blocks", 1, bytes(77, 76, 5, 2, 24, 1, 2, 160, 1, 4, 0, 3, 1, 2, 3), END);
        int[] mask = {77, 76, 5, 2, 24, 8, 8, 161, 1};
        int[] fore = {162, 0, 3, 0, 1, 2, 3, 175};
        fine("a MASK's, just all", 2, mask, bytes(2, 0, 10, 1), fore);
        refused("a MASK's, one beyond", 11, mask, bytes(2, 0, 11, 1), fore);
        refused("a MASK's, 0", 13, mask, bytes(6, 0, 9, 1, 0, 0, 1, 0), fore);
        int[] large = {77, 76, 24, 24, 24, 1, 1, 160, 1, 12, 0, 255, 1, 2, 3, 255, 1, 2, 3, 66, 1, 2, 3, 175};
        fine("576", 1, large);
        refused("577", 19, with(large, 19, 67));
        fine("runs of one", 1, bytes(77, 76, 3, 1, 1, 1, 1, 160, 1, 12, 0, 1, 0, 0, 0, 1, 0, 0, 0, 1, 0, 0, 0), END);
    }

    private static void maskValues() {
        Checks.says(14, "a value of a MASK's run above 1");
        int[] front = {77, 76, 5, 2, 24, 8, 8, 161, 1};
        int[] fore = {162, 0, 3, 0, 1, 2, 3, 175};
        fine("0 and 1", 2, front, bytes(4, 0, 9, 0, 1, 1), fore);
        int[] wrong = {2, 3, 128, 254, 255};
        for (int value : wrong) {
            refused("the first one " + value, 12, front, bytes(4, 0, 9, value, 1, 1), fore);
            refused("the last one " + value, 14, front, bytes(4, 0, 9, 0, 1, value), fore);
        }
    }

    private static void runNumbers() {
        Checks.says(14, "behind a layer of KIND 1 its number of bytes (at its first one) if it took another number");
        int[] front = {77, 76, 5, 2, 24, 8, 1, 160, 1};
        int[] one = {10, 1, 2, 3};
        int[] two = {9, 1, 2, 3, 1, 1, 2, 3};
        fine("4", 1, front, bytes(4, 0), one, END);
        fine("8", 1, front, bytes(8, 0), two, END);
        int[] wrong = {0, 3, 5, 8, 255};
        for (int number : wrong) {
            refused("4, not " + number, 9, front, bytes(number, 0), one, END);
        }
        refused("4, not 260", 9, front, bytes(4, 1), one, END);
        refused("8, not 4", 9, front, bytes(4, 0), two, END);
        refused("8, not 7", 9, front, bytes(7, 0), two, END);
        refused("behind it, though bytes lack", 9, front, bytes(5, 0), one);
        refused("not before it ends", 15, front, bytes(0, 0), bytes(9, 1, 2, 3, 0));
        refused("not before it ends: bytes lack", 15, front, bytes(0, 0), bytes(9, 1, 2, 3));
        int[] mask = {77, 76, 5, 2, 24, 8, 1, 161, 1};
        int[] fore = {162, 1, 4, 0, 1, 1, 2, 3, 175};
        fine("a MASK's 2", 2, mask, bytes(2, 0, 10, 1), fore);
        refused("a MASK's 2, not 1", 9, mask, bytes(1, 0, 10, 1), fore);
        refused("a MASK's 2, not 3", 9, mask, bytes(3, 0, 10, 1), fore);
        refused("the FORE's", 15, mask, bytes(2, 0, 10, 1), with(fore, 2, 3));
        int[] many = new int[256];
        for (int i = 0; i < 256; i += 4) {
            many[i] = 1;
        }
        int[] head = {77, 76, 8, 8, 24, 1, 1, 160, 1};
        fine("256", 1, head, bytes(0, 1), many, END);
        refused("256, not 0", 9, head, bytes(0, 0), many, END);
        refused("256, not 1", 9, head, bytes(1, 0), many, END);
    }

    private static void behindAll() {
        Checks.says(14, "a byte behind all");
        int[] all = of(HEAD, BACK, END);
        int[] more = {0, 77, 160, 175, 255};
        for (int b : more) {
            refused("one", 15, all, bytes(b));
        }
        refused("many", 15, all, all);
        refused("a stripe more", 23, with(HEAD, 3, 2), BACK, END, BACK, END, BACK, END);
    }

    private static void lacking() {
        Checks.says(14, "If bytes lack: at the place behind the last one");
        int[] plain = of(with(HEAD, 3, 2), BACK, MASK, FORE, REST, END, MASK, FORE, END);
        int[] runs = {77, 76, 9, 1, 1, 1, 1, 160, 1, 8, 0, 8, 1, 2, 3, 1, 1, 2, 3, 161, 1, 4, 0, 8, 0, 1, 1,
            162, 1, 4, 0, 9, 0, 0, 0, 163, 1, 4, 0, 9, 0, 0, 0, 175};
        fine("all of them", 6, plain);
        fine("all of them", 4, runs);
        for (int n = 0; n < plain.length; n++) {
            refused(n + " of them", n, Arrays.copyOf(plain, n));
        }
        for (int n = 0; n < runs.length; n++) {
            refused(n + " of the runs", n, Arrays.copyOf(runs, n));
        }
    }

    private static void lastStripe() {
        Checks.says(14, "STRIPES are STEP rows each, from the top on, the last one what is left");
        int[] head = {77, 76, 2, 5, 2, 1, 1};
        int[] four = {160, 1, 4, 0, 4, 1, 2, 3, 175};
        int[] two = {160, 1, 4, 0, 2, 4, 5, 6, 175};
        fine("2, 2, 1 rows", 3, head, four, four, two);
        refused("not 2, 2, 2", 29, head, four, four, four);
        refused("not 2, 1, 2", 24, head, four, two, four);
        MaskLayers page = fed(of(head, four, four, two));
        page.read();
        Checks.is("the last row", page.at(1, 4), 0x040506);
        Checks.is("the one before", page.at(1, 3), 0x010203);
    }

    private static void layerNotThere() {
        Checks.says(15, "0 if the layer is not there that it would be of");
        MaskLayers page = fed(bytes(77, 76, 3, 1, 24, 8, 8, 161, 0, 1, 0, 0x40, 162, 0, 3, 0, 9, 9, 9, 175));
        Checks.is("MASK and FORE", page.read(), 2);
        Checks.is("no BACK", page.at(0, 0), 0);
        Checks.is("FORE", page.at(1, 0), 0x090909);
        Checks.is("no BACK", page.at(2, 0), 0);
        MaskLayers rest = fed(bytes(77, 76, 2, 1, 24, 8, 8, 161, 0, 1, 0, 0x40, 162, 0, 3, 0, 9, 9, 9,
            163, 0, 6, 0, 1, 2, 255, 0, 0, 0, 175));
        Checks.is("MASK, FORE and REST", rest.read(), 3);
        Checks.is("0 and the REST", rest.at(0, 0), 0x0102FF);
        MaskLayers again = fed(of(HEAD, BACK, END));
        again.read();
        again.clear();
        Checks.feedAll(again, of(HEAD, with(MASK, 4, 0), FORE, END));
        again.read();
        Checks.is("a BACK of a reading before is gone", again.at(0, 0), 0);
    }

    private static void restMore() {
        Checks.says(15, "part by part the REST's more, if that is there, modulo 256");
        int[] front = {77, 76, 1, 1, 24, 8, 8, 160, 0, 3, 0, 200, 100, 255, 163, 0, 3, 0};
        Checks.is("255, 255, 255", exactly(front, 55, 155, 0), 0xFFFFFF);
        Checks.is("256 is 0, part by part", exactly(front, 56, 156, 1), 0);
        Checks.is("nothing goes over to the next part", exactly(front, 0, 0, 1), 0xC86400);
        Checks.is("nothing goes over from green", exactly(front, 0, 156, 0), 0xC800FF);
        Checks.is("the most", exactly(front, 255, 255, 255), 0xC763FE);
        Checks.is("0", exactly(front, 0, 0, 0), 0xC864FF);
        MaskLayers without = fed(of(Arrays.copyOf(front, 14), END));
        without.read();
        Checks.is("no REST", without.at(0, 0), 0xC864FF);
        MaskLayers fore = fed(of(HEAD, BACK, MASK, FORE, with(REST, 4, 252), END));
        fore.read();
        Checks.is("on the FORE", fore.at(0, 0), 0x000D0F);
    }

    private static int exactly(int[] front, int red, int green, int blue) {
        MaskLayers page = fed(of(front, bytes(red, green, blue), END));
        page.read();
        return page.at(0, 0);
    }
}
