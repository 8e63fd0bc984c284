/** Promises 9 to 13: what is WRITTEN, and the bytes that are fed. */
public final class BytesTest {
    public static void main(String[] args) {
        nothingWritten();
        plainAndRuns();
        longRuns();
        masks();
        writtenBytesStay();
        feed();
        pass();
        alter();
        Checks.end();
    }

    private static void nothingWritten() {
        MaskLayers page = new MaskLayers(2, 1);
        Checks.noState("9: nothing was run", () -> page.write());
        Checks.noPlace("10: nothing was written", () -> page.byteAt(0));
        page.run(1, 1, false);
        Checks.noPlace("10: nothing was written", () -> page.byteAt(0));
        Checks.noPlace("12: nothing was written", () -> page.pass(0, 0));
        Checks.noPlace("12: no byte goes first", () -> page.pass(0, -1));
        Checks.noPlace("13: nothing was fed", () -> page.alter(0, 300));
    }

    private static void plainAndRuns() {
        MaskLayers page = new MaskLayers(2, 1);
        page.put(0, 0, 2, 0x010203);
        page.run(3, 1, true);
        page.write();
        Checks.written("9: a run takes fewer", page, 77, 76, 2, 1, 24, 3, 1, 160, 1, 4, 0, 2, 1, 2, 3, 175);
        page.put(1, 0, 1, 0x040506);
        page.run(3, 1, true);
        page.write();
        Checks.written("9: runs take more", page, 77, 76, 2, 1, 24, 3, 1, 160, 0, 6, 0, 1, 2, 3, 4, 5, 6, 175);
        MaskLayers four = new MaskLayers(4, 1);
        four.put(0, 0, 1, 1);
        four.put(3, 0, 1, 1);
        four.run(1, 1, true);
        four.write();
        Checks.written("9: KIND 0 if they take as many", four, 77, 76, 4, 1, 24, 1, 1,
            160, 0, 12, 0, 0, 0, 1, 0, 0, 0, 0, 0, 0, 0, 0, 1, 175);
    }

    private static void longRuns() {
        MaskLayers page = new MaskLayers(24, 24);
        for (int y = 0; y < 24; y++) {
            page.put(0, y, 24, 0xFFFEFD);
        }
        page.run(1, 1, true);
        page.write();
        Checks.written("9: runs of 255 at most", page, 77, 76, 24, 24, 24, 1, 1,
            160, 1, 12, 0, 255, 255, 254, 253, 255, 255, 254, 253, 66, 255, 254, 253, 175);
        MaskLayers just = new MaskLayers(17, 15);
        just.run(1, 1, true);
        just.write();
        Checks.written("9: 255 are one run", just, 77, 76, 17, 15, 24, 1, 1, 160, 1, 4, 0, 255, 0, 0, 0, 175);
        MaskLayers more = new MaskLayers(16, 16);
        more.run(1, 1, true);
        more.write();
        Checks.written("9: 256 are two", more, 77, 76, 16, 16, 24, 1, 1,
            160, 1, 8, 0, 255, 0, 0, 0, 1, 0, 0, 0, 175);
        more.put(0, 0, 1, 9);
        more.run(1, 1, true);
        more.write();
        Checks.written("9: each run may have 255", more, 77, 76, 16, 16, 24, 1, 1,
            160, 1, 8, 0, 1, 0, 0, 9, 255, 0, 0, 0, 175);
    }

    private static void masks() {
        MaskLayers page = new MaskLayers(5, 4);
        page.stripe(3);
        for (int x = 0; x < 5; x += 2) {
            page.mask(x, 0, 1, true);
            page.mask(x, 1, 1, true);
        }
        page.mask(4, 2, 1, true);
        page.mask(0, 3, 5, true);
        Checks.is("9: layers", page.run(8, 8, false), 5);
        page.write();
        Checks.written("9: eight samples in a byte", page, 77, 76, 5, 4, 3, 8, 8,
            160, 0, 3, 0, 0, 0, 0, 161, 0, 2, 0, 0xAD, 0x42, 162, 0, 3, 0, 0, 0, 0, 175,
            161, 0, 1, 0, 0xF8, 162, 0, 3, 0, 0, 0, 0, 175);
        MaskLayers wide = new MaskLayers(17, 1);
        wide.mask(0, 0, 17, true);
        wide.run(8, 8, false);
        wide.write();
        Checks.written("9: a MASK in runs", wide, 77, 76, 17, 1, 24, 8, 8,
            161, 1, 2, 0, 17, 1, 162, 1, 4, 0, 3, 0, 0, 0, 175);
        MaskLayers even = new MaskLayers(16, 1);
        even.mask(0, 0, 16, true);
        even.run(8, 8, false);
        even.write();
        Checks.written("9: a MASK of as many", even, 77, 76, 16, 1, 24, 8, 8,
            161, 0, 2, 0, 255, 255, 162, 1, 4, 0, 2, 0, 0, 0, 175);
    }

    private static void writtenBytesStay() {
        MaskLayers page = new MaskLayers(2, 1);
        page.put(0, 0, 2, 0x010203);
        page.run(1, 1, true);
        Checks.is("9: how many", page.write(), 16);
        page.put(0, 0, 1, 9);
        page.run(1, 1, true);
        Checks.is("10: bytes stay when a run comes", page.told(4), 16);
        Checks.is("10: bytes stay when a run comes", page.byteAt(11), 2);
        Checks.is("9: written anew", page.write(), 18);
        Checks.is("9: written anew", page.byteAt(13), 9);
        page.run(1, 2, false);
        Checks.is("9: fewer", page.write(), 15);
        Checks.is("10: the last one", page.byteAt(14), 175);
        Checks.noPlace("10: those before are gone", () -> page.byteAt(15));
        Checks.noPlace("10: below", () -> page.byteAt(-1));
        Checks.noPlace("10: beyond", () -> page.byteAt(Integer.MAX_VALUE));
    }

    private static void feed() {
        MaskLayers page = new MaskLayers(2, 1);
        Checks.is("11: feed", page.feed(0), 1);
        Checks.is("11: feed", page.feed(255), 2);
        Checks.noArgument("11: below", () -> page.feed(-1));
        Checks.noArgument("11: beyond", () -> page.feed(256));
        Checks.is("11: a call that throws changes nothing", page.told(5), 2);
        Checks.is("11: what was fed", page.alter(1, 7), 255);
    }

    private static void pass() {
        MaskLayers page = new MaskLayers(2, 1);
        page.put(0, 0, 2, 0x010203);
        page.run(1, 1, true);
        page.write();
        page.feed(9);
        Checks.is("12: some", page.pass(11, 3), 3);
        Checks.is("12: they are fed behind", page.told(5), 4);
        Checks.is("12: none", page.pass(0, 0), 0);
        Checks.is("12: as many as there are", page.pass(15, Integer.MAX_VALUE), 1);
        Checks.is("12: told", page.told(5), 5);
        int[] due = {9, 2, 1, 2, 175};
        for (int i = 0; i < due.length; i++) {
            Checks.is("12: byte " + i, page.alter(i, due[i]), due[i]);
        }
        Checks.noPlace("12: below", () -> page.pass(-1, 1));
        Checks.noPlace("12: beyond", () -> page.pass(16, 0));
        Checks.noPlace("12: no byte goes first", () -> page.pass(16, -1));
        Checks.noArgument("12: n below", () -> page.pass(0, -1));
        Checks.is("12: a call that throws changes nothing", page.told(5), 5);
    }

    private static void alter() {
        MaskLayers page = new MaskLayers(2, 1);
        Checks.feedAll(page, 1, 2, 3);
        Checks.is("13: alter", page.alter(1, 255), 2);
        Checks.is("13: alter again", page.alter(1, 0), 255);
        Checks.is("13: the one before", page.alter(0, 0), 1);
        Checks.is("13: the one behind", page.alter(2, 0), 3);
        Checks.noPlace("13: below", () -> page.alter(-1, 0));
        Checks.noPlace("13: beyond", () -> page.alter(3, 0));
        Checks.noPlace("13: no byte goes first", () -> page.alter(3, 256));
        Checks.noArgument("13: b below", () -> page.alter(0, -1));
        Checks.noArgument("13: b beyond", () -> page.alter(0, 256));
        Checks.is("13: a call that throws changes nothing", page.alter(0, 0), 0);
        Checks.is("13: none is more", page.told(5), 3);
    }
}
