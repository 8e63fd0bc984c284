import java.util.Arrays;

/** Promises 14 and 15: reading, where it is REFUSED, and the page that it tells. */
public final class ReadingTest {
    /** A page of 5 by 2 with all four layers in its one stripe. */
    private static final int[] FULL = {77, 76, 5, 2, 24, 1, 1,
        160, 1, 4, 0, 10, 7, 7, 7,
        161, 0, 2, 0, 255, 192,
        162, 1, 8, 0, 9, 1, 2, 3, 1, 4, 5, 6,
        163, 1, 8, 0, 9, 0, 0, 1, 1, 255, 0, 2,
        175};

    public static void main(String[] args) {
        nothingRead();
        wholePage();
        head();
        marks();
        numbers();
        values();
        lackingBytes();
        layersNotThere();
        blocks();
        readStays();
        Checks.end();
    }

    private static int readOf(int... bytes) {
        MaskLayers page = new MaskLayers(1, 1);
        Checks.feedAll(page, bytes);
        return page.read();
    }

    private static int[] with(int place, int b) {
        int[] bytes = FULL.clone();
        bytes[place] = b;
        return bytes;
    }

    private static void refused(String what, int place, int... bytes) {
        Checks.is("14: " + what, readOf(bytes), -1 - place);
    }

    private static void nothingRead() {
        MaskLayers page = new MaskLayers(3, 3);
        Checks.noState("15: nothing was read", () -> page.at(0, 0));
        Checks.noState("15: state goes first", () -> page.at(-1, 99));
        Checks.is("14: no bytes", page.read(), -1);
        Checks.noState("15: refused", () -> page.at(0, 0));
    }

    private static void wholePage() {
        MaskLayers page = new MaskLayers(24, 1);
        Checks.feedAll(page, FULL);
        Checks.is("14: four layers", page.read(), 4);
        for (int i = 0; i < 10; i++) {
            Checks.is("15: at", page.at(i % 5, i / 5), i < 9 ? 0x010204 : 0x030508);
        }
        int[][] places = {{-1, 0}, {5, 0}, {0, -1}, {0, 2}, {23, 0}, {Integer.MAX_VALUE, Integer.MIN_VALUE}};
        for (int[] p : places) {
            Checks.noPlace("15: no sample of what was read", () -> page.at(p[0], p[1]));
        }
    }

    private static void head() {
        int[][] wrong = {{0, 76}, {0, 78}, {0, 0}, {1, 75}, {1, 77}, {2, 0}, {2, 25}, {2, 255}, {3, 0}, {3, 25},
            {4, 0}, {4, 25}, {5, 0}, {5, 9}, {6, 0}, {6, 9}, {6, 255}};
        for (int[] w : wrong) {
            refused("byte " + w[0] + " is " + w[1], w[0], with(w[0], w[1]));
        }
        Checks.is("14: the largest of all", readOf(77, 76, 24, 24, 24, 8, 8, 160, 1, 4, 0, 9, 1, 2, 3, 175), 1);
        Checks.is("14: the least of all", readOf(77, 76, 1, 1, 1, 1, 1, 160, 0, 3, 0, 1, 2, 3, 175), 1);
    }

    private static void marks() {
        int[] none = {0, 159, 164, 174, 176, 255};
        for (int mark : none) {
            refused("mark " + mark, 7, with(7, mark));
            refused("mark " + mark, 15, with(15, mark));
            refused("mark " + mark, 45, with(45, mark));
        }
        refused("BACK twice", 15, with(15, 160));
        refused("MASK twice", 21, with(21, 161));
        refused("BACK behind the MASK", 21, with(21, 160));
        refused("FORE twice", 33, with(33, 162));
        refused("REST twice", 45, with(45, 163));
        refused("BACK behind the REST", 45, with(45, 160));
        refused("FORE without a MASK", 7, with(7, 162));
        refused("FORE without a MASK", 15, with(15, 162));
        refused("REST at first", 7, with(7, 163));
        refused("the end at first", 7, with(7, 175));
        refused("the end behind the MASK", 21, with(21, 175));
        int[] maskFirst = {77, 76, 1, 1, 1, 1, 1, 161, 0, 1, 0, 128, 163, 0, 3, 0, 0, 0, 0, 175};
        refused("REST behind the MASK alone", 12, maskFirst);
        int[] noFore = {77, 76, 1, 1, 1, 1, 1, 160, 0, 3, 0, 1, 2, 3, 161, 0, 1, 0, 0, 163, 0, 3, 0, 0, 0, 0, 175};
        refused("a MASK, a REST, but no FORE", noFore.length - 1, noFore);
        refused("a byte behind all", FULL.length, longer(FULL, 0));
        refused("a mark behind all", FULL.length, longer(FULL, 160));
        refused("the end behind the next stripe's MASK", 27, 77, 76, 1, 2, 1, 1, 1,
            160, 0, 3, 0, 1, 2, 3, 163, 0, 3, 0, 1, 2, 3, 175, 161, 0, 1, 0, 128, 175);
        Checks.is("14: marks rise in each stripe anew", readOf(77, 76, 1, 2, 1, 1, 1,
            160, 0, 3, 0, 1, 2, 3, 163, 0, 3, 0, 1, 2, 3, 175, 160, 0, 3, 0, 1, 2, 3, 175), 3);
    }

    private static int[] longer(int[] bytes, int last) {
        int[] more = Arrays.copyOf(bytes, bytes.length + 1);
        more[bytes.length] = last;
        return more;
    }

    private static void numbers() {
        refused("KIND 2", 8, with(8, 2));
        refused("KIND 255", 16, with(16, 255));
        refused("KIND 0 with another number", 9, with(8, 0));
        refused("a MASK's number", 17, with(17, 1));
        refused("a MASK's number", 17, with(17, 3));
        refused("a MASK's number", 17, with(18, 1));
        refused("KIND 1, told at its first byte", 9, with(9, 5));
        refused("KIND 1, told at its first byte", 9, with(9, 3));
        refused("KIND 1, told at its first byte", 9, with(10, 1));
        refused("KIND 1, one run too few", 34 + 1, with(37, 10));
    }

    private static void values() {
        refused("a run of 0", 11, with(11, 0));
        refused("a run of 0", 29, with(29, 0));
        refused("a run beyond the last value", 11, with(11, 11));
        refused("a run beyond the last value", 29, with(29, 2));
        refused("a run that is short", 15, with(11, 9));
        for (int bit = 0; bit < 6; bit++) {
            refused("a sample that is not there", 20, with(20, 192 | 1 << bit));
        }
        int[] head = {77, 76, 5, 1, 24, 1, 1, 161};
        int[] tail = {162, 1, 4, 0, 5, 0, 0, 1, 175};
        Checks.is("14: a MASK in runs", readOf(join(head, tail, 1, 4, 0, 3, 1, 2, 0)), 2);
        refused("a MASK's value above 1", 14, join(head, tail, 1, 4, 0, 3, 1, 2, 2));
        refused("a MASK's value above 1", 12, join(head, tail, 1, 4, 0, 3, 255, 2, 0));
        refused("a MASK's run beyond", 13, join(head, tail, 1, 4, 0, 3, 1, 3, 0));
        refused("a MASK's number", 9, join(head, tail, 1, 3, 0, 3, 1, 2, 0));
        Checks.is("14: runs need not be as long as may be", readOf(join(head, tail, 1, 6, 0, 3, 1, 1, 1, 1, 1)), 2);
        Checks.is("14: KIND 1 where KIND 0 takes fewer", readOf(join(head, tail, 1, 2, 0, 5, 0)), 2);
    }

    private static int[] join(int[] head, int[] tail, int... middle) {
        int[] all = Arrays.copyOf(head, head.length + middle.length + tail.length);
        System.arraycopy(middle, 0, all, head.length, middle.length);
        System.arraycopy(tail, 0, all, head.length + middle.length, tail.length);
        return all;
    }

    private static void lackingBytes() {
        for (int n = 0; n < FULL.length; n++) {
            refused("only " + n + " bytes", n, Arrays.copyOf(FULL, n));
        }
        int[] twoStripes = {77, 76, 1, 2, 1, 1, 1, 160, 0, 3, 0, 1, 2, 3, 175};
        refused("a stripe lacks", twoStripes.length, twoStripes);
    }

    private static void layersNotThere() {
        MaskLayers page = new MaskLayers(9, 9);
        Checks.feedAll(page, 77, 76, 3, 1, 24, 8, 8, 161, 0, 1, 0, 0x40, 162, 0, 3, 0, 1, 2, 3, 175);
        Checks.is("14: MASK and FORE alone", page.read(), 2);
        Checks.is("15: no BACK", page.at(0, 0), 0);
        Checks.is("15: FORE", page.at(1, 0), 0x010203);
        page.clear();
        Checks.feedAll(page, 77, 76, 2, 1, 24, 8, 8, 161, 0, 1, 0, 0x40, 162, 0, 3, 0, 1, 2, 255,
            163, 0, 6, 0, 250, 0, 9, 255, 254, 1, 175);
        Checks.is("14: with a REST", page.read(), 3);
        Checks.is("15: no BACK, but a REST", page.at(0, 0), 0xFA0009);
        Checks.is("15: REST, modulo 256", page.at(1, 0), 0x000000);
        page.clear();
        Checks.feedAll(page, 77, 76, 2, 1, 24, 8, 8, 160, 0, 3, 0, 200, 100, 50, 163, 0, 6, 0, 56, 155, 0, 55, 156, 206, 175);
        Checks.is("14: BACK and REST", page.read(), 2);
        Checks.is("15: each part by itself", page.at(0, 0), 0x00FF32);
        Checks.is("15: each part by itself", page.at(1, 0), 0xFF0000);
    }

    private static void blocks() {
        MaskLayers page = new MaskLayers(1, 1);
        Checks.feedAll(page, 77, 76, 3, 5, 3, 3, 2,
            160, 0, 12, 0, 0, 0, 1, 0, 0, 2, 0, 0, 3, 0, 0, 4, 175,
            160, 1, 4, 0, 2, 0, 0, 5, 161, 1, 4, 0, 5, 0, 1, 1, 162, 0, 3, 0, 0, 0, 6, 175);
        Checks.is("14: two stripes", page.read(), 4);
        int[] due = {1, 1, 2, 1, 1, 2, 3, 3, 4, 5, 5, 5, 5, 5, 6};
        for (int i = 0; i < due.length; i++) {
            Checks.is("15: block of sample " + i, page.at(i % 3, i / 3), due[i]);
        }
        Checks.is("16: width", page.told(6), 3);
        Checks.is("16: height", page.told(7), 5);
    }

    private static void readStays() {
        MaskLayers page = new MaskLayers(2, 2);
        Checks.feedAll(page, FULL);
        page.read();
        page.alter(14, 9);
        page.alter(26, 9);
        page.feed(1);
        page.put(0, 0, 2, 5);
        page.run(1, 1, true);
        page.write();
        Checks.is("15: until the next reading", page.at(0, 0), 0x010204);
        Checks.is("14: refused", page.read(), -1 - FULL.length);
        Checks.noState("14: nothing is read then", () -> page.at(0, 0));
        Checks.is("14: nothing is read then", page.told(6), 0);
        Checks.is("14: nothing is read then", page.told(7), 0);
        Checks.is("14: bytes stay", page.told(5), FULL.length + 1);
    }
}
