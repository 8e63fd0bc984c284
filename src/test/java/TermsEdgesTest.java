/**
 * The boundary cases that the document's 'Terms' name, sentence by sentence, up to what is WRITTEN:
 * each method tests one sentence, which it quotes with the promise that it bears on.
 */
public final class TermsEdgesTest {
    private static final int WHITE = 16777215;

    public static void main(String[] args) {
        sizes();
        colours();
        firstState();
        lastStripe();
        firstStep();
        whichLayersAreThere();
        lastBlocks();
        blocksOfAStripe();
        means();
        filledFromTwo();
        filledFromOne();
        filledFirst();
        joined();
        restIsThere();
        restIsModulo();
        layersStay();
        headWritten();
        layersWritten();
        valuesByRows();
        numberWritten();
        endWritten();
        maskInBits();
        runsWritten();
        maskInRuns();
        kindTaken();
        kindTakenForAMask();
        Checks.end();
    }

    private static void sizes() {
        Checks.says(1, "others count as the nearest of these");
        int[] asked = {Integer.MIN_VALUE, -24, -1, 0, 1, 2, 23, 24, 25, 256, Integer.MAX_VALUE};
        int[] due = {1, 1, 1, 1, 1, 2, 23, 24, 24, 24, 24};
        for (int i = 0; i < asked.length; i++) {
            oneSize(new MaskLayers(asked[i], 3), due[i], 3);
            oneSize(new MaskLayers(3, asked[i]), 3, due[i]);
            oneSize(new MaskLayers(asked[i], asked[i]), due[i], due[i]);
        }
    }

    private static void oneSize(MaskLayers page, int width, int height) {
        Checks.is("width", page.told(0), width);
        Checks.is("height", page.told(1), height);
        Checks.is("the last sample", page.put(width - 1, height - 1, 1, 1), 1);
        Checks.noPlace("a column more", () -> page.put(width, 0, 1, 1));
        Checks.noPlace("a row more", () -> page.put(0, height, 1, 1));
        page.run(8, 8, false);
        page.write();
        Checks.writtenFrom("sizes", page, 2, width, height);
    }

    private static void colours() {
        Checks.says(2, "A sample has a COLOUR 0 .. 16777215");
        MaskLayers page = new MaskLayers(1, 1);
        Checks.noArgument("below the least", () -> page.put(0, 0, 1, -1));
        Checks.noArgument("above the largest", () -> page.put(0, 0, 1, WHITE + 1));
        Checks.noArgument("far below", () -> page.put(0, 0, 1, Integer.MIN_VALUE));
        Checks.noArgument("far above", () -> page.put(0, 0, 1, Integer.MAX_VALUE));
        Checks.is("the largest", page.put(0, 0, 1, WHITE), 1);
        page.run(1, 1, false);
        Checks.is("the largest", page.layer(0, 0, 0), WHITE);
        Checks.is("the least", page.put(0, 0, 1, 0), 1);
        Checks.says(2, "red 65536 times, green 256 times, blue");
        page.put(0, 0, 1, 255 * 65536 + 1);
        page.run(1, 1, false);
        page.write();
        Checks.writtenFrom("red 255, green 0, blue 1", page, 11, 255, 0, 1);
        page.put(0, 0, 1, 256 * 255);
        page.run(1, 1, false);
        page.write();
        Checks.writtenFrom("green 255", page, 11, 0, 255, 0);
    }

    private static void firstState() {
        Checks.says(1, "At first colours are 0, none is MASKED");
        MaskLayers page = new MaskLayers(24, 24);
        for (int y = 0; y < 24; y++) {
            Checks.is("colours", page.put(0, y, 24, 0), 0);
            Checks.is("masked", page.mask(0, y, 24, false), 0);
        }
        Checks.is("masked", page.told(3), 0);
        Checks.is("no MASK, no REST", page.run(1, 1, true), 1);
        Checks.is("the BACK", page.layer(0, 23, 23), 0);
    }

    /** Rows of the colours 0, 2, 4 ..: the means of blocks show which rows are one block. */
    private static MaskLayers rowsOf(int height) {
        MaskLayers page = new MaskLayers(2, height);
        for (int y = 0; y < height; y++) {
            page.put(0, y, 2, 2 * y);
        }
        return page;
    }

    private static void lastStripe() {
        Checks.says(4, "STRIPES are STEP rows each, from the top on, the last one what is left");
        int[][] backs = {{0, 2, 4, 6, 8}, {1, 1, 5, 5, 8}, {2, 2, 2, 7, 7}, {3, 3, 3, 3, 8}, {4, 4, 4, 4, 4}, {4, 4, 4, 4, 4}};
        int[] stripes = {5, 3, 2, 2, 1, 1};
        for (int step = 1; step <= 6; step++) {
            MaskLayers page = rowsOf(5);
            Checks.is("stripe(" + step + ")", page.stripe(step), stripes[step - 1]);
            Checks.is("a BACK for each", page.run(8, 8, false), stripes[step - 1]);
            for (int y = 0; y < 5; y++) {
                Checks.is("stripe(" + step + "), row " + y, page.layer(0, 1, y), backs[step - 1][y]);
            }
        }
        MaskLayers high = rowsOf(24);
        Checks.is("stripe(24) of 24", high.stripe(24), 1);
        Checks.is("stripe(23) of 24", high.stripe(23), 2);
        high.run(8, 8, false);
        Checks.is("row 23 by itself", high.layer(0, 0, 23), 46);
        Checks.is("row 22 with those above", high.layer(0, 0, 22), 38);
        Checks.is("stripe(12) of 24", high.stripe(12), 2);
        Checks.is("stripe(1) of 24", high.stripe(1), 24);
    }

    private static void firstStep() {
        Checks.says(4, "STEP is 24 at first");
        MaskLayers high = new MaskLayers(1, 24);
        Checks.is("one stripe", high.told(2), 1);
        Checks.is("one BACK", high.run(1, 1, true), 1);
        MaskLayers low = new MaskLayers(1, 3);
        low.run(1, 1, true);
        low.write();
        Checks.is("written", low.byteAt(4), 24);
    }

    private static void whichLayersAreThere() {
        Checks.says(5, "the BACK is there if the stripe has such samples, MASK and FORE if it has such");
        MaskLayers page = new MaskLayers(3, 4);
        page.stripe(2);
        Checks.is("none MASKED: BACK, BACK", page.run(1, 1, false), 2);
        expectThere(page, 0, true, false);
        page.mask(2, 1, 1, true);
        Checks.is("one MASKED: all three, BACK", page.run(1, 1, false), 4);
        expectThere(page, 0, true, true);
        expectThere(page, 2, true, false);
        page.mask(0, 0, 3, true);
        page.mask(1, 1, 2, true);
        Checks.is("all but one MASKED: all three, BACK", page.run(1, 1, false), 4);
        expectThere(page, 0, true, true);
        page.mask(0, 1, 1, true);
        Checks.is("all MASKED: MASK, FORE, BACK", page.run(1, 1, false), 3);
        expectThere(page, 0, false, true);
        expectThere(page, 3, true, false);
        page.mask(0, 2, 3, true);
        page.mask(0, 3, 3, true);
        Checks.is("the page MASKED: MASK and FORE, twice", page.run(1, 1, false), 4);
        expectThere(page, 2, false, true);
    }

    private static void expectThere(MaskLayers page, int y, boolean back, boolean fore) {
        Checks.is("BACK of row " + y, page.layer(0, 0, y) != MaskLayers.NONE, back);
        Checks.is("MASK of row " + y, page.layer(1, 0, y) != MaskLayers.NONE, fore);
        Checks.is("FORE of row " + y, page.layer(2, 0, y) != MaskLayers.NONE, fore);
        Checks.is("REST of row " + y, page.layer(3, 0, y) != MaskLayers.NONE, false);
    }

    private static void lastBlocks() {
        Checks.says(6, "each of SCALE columns and rows, from the left end and the stripe's first row on; "
            + "the last ones have what is left");
        int[][] backs = {{0, 2, 4, 6, 8}, {1, 1, 5, 5, 8}, {2, 2, 2, 7, 7}, {3, 3, 3, 3, 8}, {4, 4, 4, 4, 4}};
        for (int scale = 1; scale <= 8; scale++) {
            int[] due = backs[Math.min(scale, 5) - 1];
            MaskLayers wide = new MaskLayers(5, 1);
            for (int x = 0; x < 5; x++) {
                wide.put(x, 0, 1, 2 * x);
            }
            MaskLayers high = rowsOf(5);
            wide.run(9 - scale, scale, false);
            high.run(9 - scale, scale, false);
            for (int i = 0; i < 5; i++) {
                Checks.is("SCALE " + scale + ", column " + i, wide.layer(0, i, 0), due[i]);
                Checks.is("SCALE " + scale + ", row " + i, high.layer(0, 0, i), due[i]);
            }
            wide.mask(0, 0, 5, true);
            wide.run(scale, 9 - scale, false);
            for (int x = 0; x < 5; x++) {
                Checks.is("FORE, SCALE " + scale + ", column " + x, wide.layer(2, x, 0), due[x]);
            }
        }
        MaskLayers nine = new MaskLayers(9, 9);
        nine.put(8, 8, 1, 255);
        nine.put(7, 7, 1, 64);
        nine.run(1, 8, false);
        Checks.is("the ninth column and row", nine.layer(0, 8, 8), 255);
        Checks.is("the ninth column", nine.layer(0, 8, 7), 0);
        Checks.is("the eighth", nine.layer(0, 7, 7), 1);
    }

    private static void blocksOfAStripe() {
        Checks.says(6, "from the left end and the stripe's first row on");
        MaskLayers page = rowsOf(8);
        page.stripe(3);
        page.run(1, 2, false);
        int[] due = {1, 1, 4, 7, 7, 10, 13, 13};
        for (int y = 0; y < 8; y++) {
            Checks.is("row " + y, page.layer(0, 0, y), due[y]);
        }
    }

    /** The BACK's colour of one block of 8 by 8 samples, so many of which have a colour. */
    private static int meanOf(int many, int colour, int others) {
        MaskLayers page = new MaskLayers(8, 8);
        for (int y = 0; y < 8; y++) {
            page.put(0, y, 8, others);
        }
        for (int i = 0; i < many; i++) {
            page.put(i % 8, i / 8, 1, colour);
        }
        page.run(1, 8, false);
        return page.layer(0, 7, 7);
    }

    private static void means() {
        Checks.says(6, "part by part, the mean of their colours, rounded to the nearest whole number, halves up");
        Checks.is("31 of 64", meanOf(31, 1, 0), 0);
        Checks.is("32 of 64, a half", meanOf(32, 1, 0), 1);
        Checks.is("33 of 64", meanOf(33, 1, 0), 1);
        Checks.is("none is more than it", meanOf(64, WHITE, 0), WHITE);
        Checks.is("254.5 in each part", meanOf(32, WHITE, 0xFEFEFE), WHITE);
        Checks.is("below 254.5 in each part", meanOf(31, WHITE, 0xFEFEFE), 0xFEFEFE);
        Checks.is("127.5 in each part", meanOf(32, WHITE, 0), 0x808080);
        Checks.is("parts apart", meanOf(32, 0xFF00FF, 0x00FF00), 0x808080);
        MaskLayers page = new MaskLayers(3, 1);
        page.put(0, 0, 1, 0x010001);
        page.put(1, 0, 1, 0x000001);
        page.run(1, 3, false);
        Checks.is("a third, none, two thirds", page.layer(0, 0, 0), 0x000001);
        page.put(0, 0, 2, 0xFFFFFF);
        page.mask(2, 0, 1, true);
        page.run(3, 3, false);
        Checks.is("of samples behind alone", page.layer(0, 2, 0), WHITE);
        Checks.is("of samples in front alone", page.layer(2, 0, 0), 0);
    }

    private static void filledFromTwo() {
        Checks.says(7, "FILLED, in order by rows: part by part with the mean, rounded down, of the blocks to its left and above it");
        MaskLayers page = new MaskLayers(3, 3);
        page.put(1, 0, 1, 0x01FF00);
        page.put(0, 1, 1, 0x00FEFF);
        page.put(2, 0, 1, 0x0300FF);
        page.put(0, 2, 1, 0xFFFFFF);
        page.mask(1, 1, 2, true);
        page.mask(1, 2, 2, true);
        page.run(8, 1, false);
        Checks.is("halves down, each part by itself", page.layer(0, 1, 1), 0x00FE7F);
        Checks.is("from one that was FILLED", page.layer(0, 2, 1), 0x017FBF);
        Checks.is("from the one above that was FILLED", page.layer(0, 1, 2), 0x7FFEBF);
        Checks.is("from two that were FILLED", page.layer(0, 2, 2), 0x40BEBF);
        Checks.is("filled", page.filled(0, 1, 1) && page.filled(0, 2, 1) && page.filled(0, 1, 2) && page.filled(0, 2, 2), true);
        Checks.is("not filled", page.filled(0, 0, 0) || page.filled(0, 1, 0) || page.filled(0, 0, 1), false);
        MaskLayers white = new MaskLayers(2, 2);
        white.put(0, 0, 2, WHITE);
        white.put(0, 1, 2, WHITE);
        white.mask(1, 1, 1, true);
        white.run(1, 1, false);
        Checks.is("the mean of the largest", white.layer(0, 1, 1), WHITE);
    }

    private static void filledFromOne() {
        Checks.says(7, "or what the one of them has that is there");
        MaskLayers page = new MaskLayers(4, 4);
        page.put(0, 0, 1, 0x050301);
        page.mask(1, 0, 3, true);
        for (int y = 1; y < 4; y++) {
            page.mask(0, y, 4, true);
        }
        page.run(1, 1, false);
        Checks.is("in the first row the left one", page.layer(0, 1, 0), 0x050301);
        Checks.is("in the first column the one above", page.layer(0, 0, 1), 0x050301);
        Checks.is("the last one of the first row", page.layer(0, 3, 0), 0x050301);
        Checks.is("the last one of the first column", page.layer(0, 0, 3), 0x050301);
        MaskLayers others = new MaskLayers(3, 3);
        others.put(0, 0, 1, 0x111111);
        others.put(1, 0, 1, 0x222222);
        others.put(0, 1, 1, 0x333333);
        others.mask(2, 0, 1, true);
        others.mask(0, 2, 1, true);
        others.run(1, 1, false);
        Checks.is("the left one, not the first of all", others.layer(0, 2, 0), 0x222222);
        Checks.is("the one above, not the first of all", others.layer(0, 0, 2), 0x333333);
        MaskLayers rows = new MaskLayers(2, 2);
        rows.put(1, 0, 1, 200);
        rows.mask(0, 1, 1, true);
        rows.run(1, 1, false);
        Checks.is("not the last one of the row before", rows.layer(0, 0, 1), 0);
        rows.stripe(1);
        rows.mask(0, 0, 1, true);
        rows.put(0, 0, 1, 100);
        rows.put(1, 1, 1, 40);
        rows.run(1, 1, false);
        Checks.is("none is above a stripe's first row", rows.layer(2, 1, 1), 0);
        Checks.is("a stripe's own first one", rows.layer(0, 0, 1), 40);
    }

    private static void filledFirst() {
        Checks.says(7, "the first block of all has what the first one by rows has that is not FILLED");
        int[][] seen = {{1, 0}, {2, 0}, {0, 1}, {1, 1}, {2, 2}};
        for (int[] s : seen) {
            MaskLayers page = new MaskLayers(3, 3);
            page.mask(s[0], s[1], 1, true);
            page.put(s[0], s[1], 1, 0x0A0B0C);
            page.run(1, 8, false);
            Checks.is("the one at " + s[0] + ", " + s[1], page.layer(2, 0, 0), 0x0A0B0C);
            Checks.is("filled", page.filled(2, 0, 0), true);
            Checks.is("the one that is seen", page.filled(2, s[0], s[1]), false);
        }
        MaskLayers two = new MaskLayers(3, 2);
        two.mask(2, 0, 1, true);
        two.put(2, 0, 1, 9);
        two.mask(0, 1, 1, true);
        two.put(0, 1, 1, 5);
        two.run(1, 8, false);
        Checks.is("rows go before columns", two.layer(2, 0, 0), 9);
        MaskLayers last = new MaskLayers(24, 24);
        last.mask(23, 23, 1, true);
        last.put(23, 23, 1, 0x112233);
        last.run(1, 8, false);
        Checks.is("the last of all", last.layer(2, 0, 0), 0x112233);
        Checks.is("and so all others", last.layer(2, 12, 7), 0x112233);
        last.run(8, 8, false);
        Checks.is("the last of nine blocks", last.layer(2, 0, 0), 0x112233);
        Checks.is("its block is not filled", last.filled(2, 16, 16), false);
        Checks.is("the one to its left is", last.filled(2, 15, 16), true);
        Checks.is("the one above is", last.filled(2, 16, 15), true);
    }

    private static void joined() {
        Checks.says(8, "JOINED, a sample has the FORE's colour if it is MASKED, else the BACK's");
        MaskLayers page = new MaskLayers(4, 2);
        page.put(0, 0, 4, 0x102030);
        page.put(1, 0, 2, 0x405060);
        page.mask(1, 0, 2, true);
        page.mask(0, 1, 4, true);
        page.stripe(1);
        page.run(8, 8, true);
        Checks.is("behind", page.joined(0, 0), 0x102030);
        Checks.is("in front", page.joined(1, 0), 0x405060);
        Checks.is("in front", page.joined(2, 0), 0x405060);
        Checks.is("behind", page.joined(3, 0), 0x102030);
        Checks.is("no BACK", page.joined(3, 1), 0);
    }

    private static void restIsThere() {
        Checks.says(5, "The REST is there if the page is to be EXACT and some sample is JOINED otherwise than it is");
        MaskLayers page = new MaskLayers(8, 4);
        page.stripe(2);
        Checks.is("none is otherwise", page.run(8, 8, true), 2);
        page.put(7, 3, 1, 1);
        Checks.is("one is, by one in blue", page.run(8, 8, true), 3);
        Checks.is("a REST in that stripe", page.layer(3, 7, 3), 1);
        Checks.is("0 elsewhere in it", page.layer(3, 0, 2), 0);
        Checks.is("none in the other", page.layer(3, 0, 0), MaskLayers.NONE);
        Checks.is("not EXACT", page.run(8, 8, false), 2);
        Checks.is("not EXACT", page.layer(3, 7, 3), MaskLayers.NONE);
        Checks.is("blocks of one sample", page.run(8, 1, true), 2);
        page.mask(7, 3, 1, true);
        Checks.is("in front by itself", page.run(8, 8, true), 4);
        page.put(7, 3, 1, 0);
        page.put(0, 0, 1, 0x010000);
        Checks.is("by one in red, at the first", page.run(1, 8, true), 5);
        Checks.is("by one in red", page.layer(3, 0, 0), 0x010000);
        MaskLayers front = new MaskLayers(2, 1);
        front.mask(0, 0, 2, true);
        front.put(0, 0, 1, 0x000300);
        Checks.is("of the FORE alone", front.run(2, 1, true), 3);
    }

    private static void restIsModulo() {
        Checks.says(6, "part by part what the sample's colour is more than the JOINED one, modulo 256");
        MaskLayers page = new MaskLayers(3, 1);
        page.put(0, 0, 1, 0x00FF00);
        page.put(1, 0, 1, 0xFF0001);
        page.put(2, 0, 1, 0xFFFF01);
        page.run(1, 3, true);
        // The means are 170, 170 and 1.
        Checks.is("less in red and blue", page.layer(3, 0, 0), 0x5655FF);
        Checks.is("less in green", page.layer(3, 1, 0), 0x555600);
        Checks.is("more in both", page.layer(3, 2, 0), 0x555500);
        page.put(0, 0, 3, 0x808080);
        page.put(0, 0, 1, 0x7F807F);
        page.run(1, 3, true);
        Checks.is("one less is 255", page.layer(3, 0, 0), 0xFF00FF);
        Checks.is("as much is 0", page.layer(3, 1, 0), 0);
    }

    private static void layersStay() {
        Checks.says(5, "they stay as they are when the page changes, until the next run");
        MaskLayers page = new MaskLayers(2, 2);
        page.put(0, 0, 1, 0x030303);
        page.mask(1, 1, 1, true);
        page.run(1, 2, true);
        expectStayed(page);
        page.put(0, 0, 2, WHITE);
        page.put(0, 1, 2, WHITE);
        expectStayed(page);
        page.mask(0, 0, 2, true);
        page.mask(1, 1, 1, false);
        expectStayed(page);
        page.stripe(1);
        expectStayed(page);
        Checks.is("the next run", page.run(1, 2, true), 3);
        Checks.is("the next run", page.layer(2, 0, 0), WHITE);
        Checks.is("the next run", page.layer(1, 1, 1), MaskLayers.NONE);
    }

    private static void expectStayed(MaskLayers page) {
        Checks.is("how many", page.told(8), 4);
        Checks.is("BACK", page.layer(0, 1, 1), 0x010101);
        Checks.is("MASK", page.layer(1, 1, 1), 1);
        Checks.is("MASK", page.layer(1, 0, 0), 0);
        Checks.is("FORE", page.layer(2, 0, 0), 0);
        Checks.is("REST", page.layer(3, 0, 0), 0x020202);
        Checks.is("filled", page.filled(2, 0, 0), true);
        Checks.is("joined", page.joined(0, 0), 0x010101);
        Checks.is("in front", page.joined(1, 1), 0);
        page.write();
        Checks.written("bytes", page, 77, 76, 2, 2, 24, 1, 2, 160, 0, 3, 0, 1, 1, 1, 161, 0, 1, 0, 16,
            162, 1, 4, 0, 4, 0, 0, 0, 163, 0, 12, 0, 2, 2, 2, 255, 255, 255, 255, 255, 255, 0, 0, 0, 175);
    }

    private static void headWritten() {
        Checks.says(9, "77, 76, width, height, STEP, SCALE of the FORE, SCALE of the BACK");
        MaskLayers least = new MaskLayers(1, 1);
        least.stripe(1);
        least.run(1, 1, true);
        Checks.is("the least page", least.write(), 15);
        Checks.written("the least page", least, 77, 76, 1, 1, 1, 1, 1, 160, 0, 3, 0, 0, 0, 0, 175);
        MaskLayers largest = new MaskLayers(24, 24);
        largest.run(8, 8, true);
        largest.write();
        Checks.writtenFrom("the largest", largest, 0, 77, 76, 24, 24, 24, 8, 8);
        MaskLayers apart = new MaskLayers(5, 6);
        apart.stripe(4);
        apart.run(2, 3, true);
        apart.write();
        Checks.writtenFrom("each by itself", apart, 0, 77, 76, 5, 6, 4, 2, 3);
    }

    private static void layersWritten() {
        Checks.says(9, "stripe by stripe its LAYERS in the order of their numbers");
        MaskLayers page = new MaskLayers(2, 3);
        page.stripe(1);
        page.put(0, 0, 1, 2);
        page.mask(1, 1, 1, true);
        page.put(1, 1, 1, 7);
        page.mask(0, 2, 2, true);
        page.put(1, 2, 1, 0x010000);
        Checks.is("BACK, REST; BACK, MASK, FORE; MASK, FORE, REST", page.run(2, 2, true), 8);
        page.write();
        Checks.written("in order", page, 77, 76, 2, 3, 1, 2, 2,
            160, 0, 3, 0, 0, 0, 1, 163, 0, 6, 0, 0, 0, 1, 0, 0, 255, 175,
            160, 0, 3, 0, 0, 0, 0, 161, 0, 1, 0, 64, 162, 0, 3, 0, 0, 0, 7, 175,
            161, 0, 1, 0, 192, 162, 0, 3, 0, 1, 0, 0, 163, 0, 6, 0, 255, 0, 0, 0, 0, 0, 175);
    }

    private static void valuesByRows() {
        Checks.says(9, "VALUES are by rows");
        MaskLayers page = new MaskLayers(3, 3);
        page.put(2, 0, 1, 0x010203);
        page.put(0, 2, 1, 0x040506);
        page.put(2, 2, 1, 0x070809);
        page.run(1, 2, false);
        page.write();
        Checks.written("blocks", page, 77, 76, 3, 3, 24, 1, 2,
            160, 0, 12, 0, 0, 0, 0, 1, 1, 2, 2, 3, 3, 7, 8, 9, 175);
    }

    /** Every other sample of a page has another colour, so that no run is longer than one. */
    private static MaskLayers chequered(int width, int height) {
        MaskLayers page = new MaskLayers(width, height);
        for (int i = 1; i < width * height; i += 2) {
            page.put(i % width, i / width, 1, 3);
        }
        return page;
    }

    private static void numberWritten() {
        Checks.says(9, "how many bytes it takes, the lower byte first, in two");
        MaskLayers below = chequered(17, 5);
        below.run(1, 1, true);
        Checks.is("255", below.write(), 7 + 4 + 255 + 1);
        Checks.writtenFrom("255", below, 7, 160, 0, 255, 0);
        MaskLayers above = chequered(23, 4);
        above.run(1, 1, true);
        Checks.is("276", above.write(), 7 + 4 + 276 + 1);
        Checks.writtenFrom("276", above, 7, 160, 0, 20, 1);
        MaskLayers exactly = new MaskLayers(24, 8);
        for (int i = 0; i < 192; i += 6) {
            exactly.put(i % 24, i / 24, 3, 1);
        }
        exactly.run(1, 1, true);
        Checks.is("256, in runs", exactly.write(), 7 + 4 + 256 + 1);
        Checks.writtenFrom("256, in runs", exactly, 7, 160, 1, 0, 1, 3, 0, 0, 1, 3, 0, 0, 0);
        MaskLayers most = chequered(24, 24);
        most.run(1, 1, true);
        Checks.is("1728", most.write(), 7 + 4 + 1728 + 1);
        Checks.writtenFrom("1728", most, 7, 160, 0, 192, 6, 0, 0, 0, 0, 0, 3);
    }

    private static void endWritten() {
        Checks.says(9, "Behind the last one of a stripe: 175");
        MaskLayers page = new MaskLayers(1, 3);
        page.stripe(2);
        page.mask(0, 2, 1, true);
        page.run(1, 2, true);
        page.write();
        Checks.written("two stripes", page, 77, 76, 1, 3, 2, 1, 2,
            160, 0, 3, 0, 0, 0, 0, 175, 161, 0, 1, 0, 128, 162, 0, 3, 0, 0, 0, 0, 175);
        MaskLayers many = new MaskLayers(1, 24);
        many.stripe(1);
        many.run(1, 1, true);
        Checks.is("24 stripes", many.write(), 7 + 24 * 8);
        for (int stripe = 1; stripe <= 24; stripe++) {
            Checks.is("behind stripe " + stripe, many.byteAt(6 + 8 * stripe), 175);
        }
    }

    private static void maskInBits() {
        Checks.says(9, "eight samples of a MASK in a byte, the first one highest, 0 for those that are not there");
        int[][] due = {{128}, {192}, {224}, {240}, {248}, {252}, {254}, {255}, {255, 128}};
        for (int width = 1; width <= 9; width++) {
            MaskLayers page = new MaskLayers(width, 1);
            page.mask(0, 0, width, true);
            page.run(8, 8, true);
            page.write();
            Checks.writtenFrom(width + " samples", page, 7, 161, 0, due[width - 1].length, 0);
            Checks.writtenFrom(width + " samples", page, 11, due[width - 1]);
        }
        for (int x = 0; x < 8; x++) {
            MaskLayers page = new MaskLayers(8, 1);
            page.mask(x, 0, 1, true);
            page.run(8, 8, true);
            page.write();
            Checks.writtenFrom("sample " + x, page, 14, 161, 0, 1, 0, 128 >> x);
        }
        MaskLayers rows = new MaskLayers(3, 4);
        rows.stripe(3);
        rows.mask(0, 0, 1, true);
        rows.mask(1, 1, 1, true);
        rows.mask(2, 2, 1, true);
        rows.mask(0, 3, 3, true);
        rows.run(8, 8, true);
        rows.write();
        Checks.writtenFrom("by rows, without gaps", rows, 14, 161, 0, 2, 0, 0x88, 0x80, 162);
        Checks.writtenFrom("the next stripe begins anew", rows, 28, 161, 0, 1, 0, 0xE0);
    }

    private static void runsWritten() {
        Checks.says(9, "runs: how many times, 1 .. 255, each as long as may be; then the value");
        Checks.writtenFrom("two of one colour", flat(2, 1, 0), 7, 160, 1, 4, 0, 2, 7, 8, 9, 175);
        Checks.writtenFrom("253 of one colour", flat(11, 23, 0), 7, 160, 1, 4, 0, 253, 7, 8, 9, 175);
        Checks.writtenFrom("255 of one colour", flat(17, 15, 0), 7, 160, 1, 4, 0, 255, 7, 8, 9, 175);
        Checks.writtenFrom("256 of one colour", flat(16, 16, 0), 7, 160, 1, 8, 0, 255, 7, 8, 9, 1, 7, 8, 9, 175);
        Checks.writtenFrom("255 behind one", flat(16, 16, 1), 7, 160, 1, 8, 0, 1, 0, 0, 0, 255, 7, 8, 9, 175);
        Checks.writtenFrom("254 behind two", flat(16, 16, 2), 7, 160, 1, 8, 0, 2, 0, 0, 0, 254, 7, 8, 9, 175);
        Checks.writtenFrom("510 behind 18", flat(24, 22, 18), 7,
            160, 1, 12, 0, 18, 0, 0, 0, 255, 7, 8, 9, 255, 7, 8, 9, 175);
        Checks.writtenFrom("511 behind 17", flat(24, 22, 17), 7,
            160, 1, 16, 0, 17, 0, 0, 0, 255, 7, 8, 9, 255, 7, 8, 9, 1, 7, 8, 9, 175);
        Checks.writtenFrom("576 of one colour", flat(24, 24, 0), 7,
            160, 1, 12, 0, 255, 7, 8, 9, 255, 7, 8, 9, 66, 7, 8, 9, 175);
        MaskLayers stripes = new MaskLayers(3, 2);
        stripes.stripe(1);
        stripes.run(1, 1, true);
        stripes.write();
        Checks.writtenFrom("none goes on in the next stripe", stripes, 7,
            160, 1, 4, 0, 3, 0, 0, 0, 175, 160, 1, 4, 0, 3, 0, 0, 0, 175);
        MaskLayers parts = new MaskLayers(6, 1);
        parts.put(0, 0, 2, 0x070809);
        parts.put(2, 0, 2, 0x07080A);
        parts.put(4, 0, 2, 0x08080A);
        parts.run(1, 1, true);
        parts.write();
        Checks.writtenFrom("another one in one part", parts, 7,
            160, 1, 12, 0, 2, 7, 8, 9, 2, 7, 8, 10, 2, 8, 8, 10, 175);
    }

    /** A page of one colour but for its first samples, which are 0; it is WRITTEN. */
    private static MaskLayers flat(int width, int height, int before) {
        MaskLayers page = new MaskLayers(width, height);
        page.put(before, 0, width, 0x070809);
        for (int y = 1; y < height; y++) {
            page.put(0, y, width, 0x070809);
        }
        page.run(1, 1, true);
        page.write();
        return page;
    }

    private static void maskInRuns() {
        Checks.says(9, "runs: how many times, 1 .. 255, each as long as may be; then the value");
        MaskLayers page = new MaskLayers(24, 24);
        for (int y = 0; y < 24; y++) {
            page.mask(0, y, 24, true);
        }
        page.run(8, 8, true);
        page.write();
        Checks.writtenFrom("a MASK of 576", page, 7, 161, 1, 6, 0, 255, 1, 255, 1, 66, 1, 162, 1, 4, 0, 9, 0, 0, 0, 175);
        page.mask(23, 0, 1, false);
        page.run(8, 8, true);
        page.write();
        Checks.writtenFrom("one is not MASKED", page, 15, 161, 1, 10, 0, 23, 1, 1, 0, 255, 1, 255, 1, 42, 1, 162);
    }

    private static void kindTaken() {
        Checks.says(9, "KIND 1 is taken if that takes fewer bytes");
        Checks.writtenFrom("3 and 4", lineOf(1), 7, 160, 0, 3, 0, 1, 1, 1, 175);
        Checks.writtenFrom("6 and 8", lineOf(1, 2), 7, 160, 0, 6, 0, 1, 1, 1, 2, 2, 2, 175);
        Checks.writtenFrom("9 and 8", lineOf(1, 2, 2), 7, 160, 1, 8, 0, 1, 1, 1, 1, 2, 2, 2, 2, 175);
        Checks.writtenFrom("12 and 12", lineOf(1, 2, 2, 1), 7,
            160, 0, 12, 0, 1, 1, 1, 2, 2, 2, 2, 2, 2, 1, 1, 1, 175);
        Checks.writtenFrom("12 and 16", lineOf(1, 2, 1, 2), 7, 160, 0, 12, 0, 1, 1, 1, 2, 2, 2);
        Checks.writtenFrom("15 and 12", lineOf(1, 2, 2, 1, 1), 7, 160, 1, 12, 0, 1, 1, 1, 1, 2, 2, 2, 2, 2, 1, 1, 1, 175);
        MaskLayers page = new MaskLayers(3, 1);
        page.mask(0, 0, 3, true);
        page.put(0, 0, 2, 9);
        page.run(1, 1, true);
        page.write();
        Checks.writtenFrom("of the FORE", page, 12, 162, 1, 8, 0, 2, 0, 0, 9, 1, 0, 0, 0, 175);
        page.put(0, 0, 2, 0);
        page.put(2, 0, 1, 3);
        page.run(3, 1, true);
        page.write();
        Checks.writtenFrom("of the REST", page, 19, 163, 1, 8, 0, 2, 0, 0, 255, 1, 0, 0, 2, 175);
    }

    /** A page of one row with these colours, each in all three parts; it is WRITTEN. */
    private static MaskLayers lineOf(int... parts) {
        MaskLayers page = new MaskLayers(parts.length, 1);
        for (int x = 0; x < parts.length; x++) {
            page.put(x, 0, 1, parts[x] * 0x010101);
        }
        page.run(1, 1, true);
        page.write();
        return page;
    }

    private static void kindTakenForAMask() {
        Checks.says(9, "KIND 1 is taken if that takes fewer bytes");
        Checks.writtenFrom("1 and 2", maskedLine(8, 1, 8), 7, 161, 0, 1, 0, 255, 162);
        Checks.writtenFrom("2 and 2", maskedLine(16, 1, 16), 7, 161, 0, 2, 0, 255, 255, 162);
        Checks.writtenFrom("3 and 2", maskedLine(17, 1, 17), 7, 161, 1, 2, 0, 17, 1, 162);
        Checks.writtenFrom("3 and 4", maskedLine(24, 1, 9), 15, 161, 0, 3, 0, 255, 128, 0, 162);
        Checks.writtenFrom("4 and 4", maskedLine(16, 2, 9), 15, 161, 0, 4, 0, 255, 128, 0, 0, 162);
        Checks.writtenFrom("5 and 4", maskedLine(11, 3, 9), 15, 161, 1, 4, 0, 9, 1, 24, 0, 162);
    }

    /** A page whose first row begins with so many MASKED samples; it is WRITTEN. */
    private static MaskLayers maskedLine(int width, int height, int many) {
        MaskLayers page = new MaskLayers(width, height);
        page.mask(0, 0, many, true);
        page.run(8, 8, true);
        page.write();
        return page;
    }
}
