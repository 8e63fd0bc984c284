/** Promises 5 to 8: run, and what the layers hold that it makes. */
public final class LayersTest {
    public static void main(String[] args) {
        wrongRuns();
        nothingRun();
        whichLayers();
        means();
        fills();
        firstFill();
        rest();
        layersStay();
        wrongPlaces();
        Checks.end();
    }

    private static void wrongRuns() {
        MaskLayers page = new MaskLayers(3, 3);
        int[] wrong = {Integer.MIN_VALUE, -1, 0, 9, Integer.MAX_VALUE};
        for (int scale : wrong) {
            Checks.noArgument("5: fore " + scale, () -> page.run(scale, 1, true));
            Checks.noArgument("5: back " + scale, () -> page.run(1, scale, false));
        }
        Checks.is("5: nothing was made", page.told(8), 0);
        Checks.is("5: run", page.run(8, 1, false), 1);
        Checks.noArgument("5: wrong after a run", () -> page.run(0, 1, true));
        Checks.is("5: a call that throws changes nothing", page.told(8), 1);
    }

    private static void nothingRun() {
        MaskLayers page = new MaskLayers(3, 3);
        Checks.noState("6: nothing was run", () -> page.layer(9, 9, 9));
        Checks.noState("7: nothing was run", () -> page.filled(9, 9, 9) ? 1 : 0);
        Checks.noState("8: nothing was run", () -> page.joined(9, 9));
    }

    private static void whichLayers() {
        MaskLayers page = new MaskLayers(3, 4);
        page.stripe(1);
        page.mask(0, 1, 3, true);
        page.mask(1, 2, 1, true);
        page.mask(1, 3, 1, true);
        page.put(0, 3, 1, 4);
        Checks.is("5: BACK; MASK, FORE; all three; and REST", page.run(2, 3, true), 1 + 2 + 3 + 4);
        int[][] due = {{0, -1, -1, -1}, {-1, 1, 0, -1}, {0, 1, 0, -1}, {2, 1, 0, 0}};
        for (int y = 0; y < 4; y++) {
            for (int layer = 0; layer < 4; layer++) {
                Checks.is("6: layer " + layer + " of row " + y, page.layer(layer, 1, y), due[y][layer]);
            }
        }
        Checks.is("5: not exact", page.run(2, 3, false), 1 + 2 + 3 + 3);
        Checks.is("6: no REST", page.layer(3, 0, 3), MaskLayers.NONE);
        Checks.is("7: a layer that is not there", page.filled(2, 0, 0), false);
        Checks.is("7: a layer that is not there", page.filled(0, 0, 1), false);
    }

    private static void means() {
        MaskLayers page = new MaskLayers(5, 3);
        page.put(0, 0, 1, 0xFF0001);
        page.put(1, 0, 1, 0xFE0100);
        page.put(0, 1, 1, 0xFF0000);
        page.put(4, 2, 1, 0x030507);
        page.run(1, 2, true);
        // (255 + 254 + 255 + 0) / 4 = 191; 1 / 4 is nearer to 0.
        Checks.is("6: mean", page.layer(0, 1, 1), 0xBF0000);
        Checks.is("6: the last block has what is left", page.layer(0, 4, 2), 0x030507);
        Checks.is("6: another block", page.layer(0, 2, 2), 0);
        page.put(1, 1, 1, 0xFF0201);
        page.run(1, 2, true);
        // 1019 / 4 = 254.75; 3 / 4 = 0.75; 2 / 4 = 0.5.
        Checks.is("6: nearest, halves up", page.layer(0, 0, 0), 0xFF0101);
        page.mask(1, 1, 1, true);
        page.run(2, 2, true);
        Checks.is("6: masked samples do not count", page.layer(0, 0, 0), 0xFF0000);
        Checks.is("6: those of the FORE do", page.layer(2, 0, 0), 0xFF0201);
        Checks.is("8: behind", page.joined(1, 0), 0xFF0000);
        Checks.is("8: in front", page.joined(1, 1), 0xFF0201);
        page.stripe(1);
        page.run(2, 2, true);
        Checks.is("6: blocks end with their stripe", page.layer(0, 0, 0), 0xFF0101);
        Checks.is("6: blocks begin with their stripe", page.layer(0, 0, 1), 0xFF0000);
        Checks.is("6: mask", page.layer(1, 1, 1), 1);
        Checks.is("6: mask", page.layer(1, 0, 1), 0);
    }

    private static void fills() {
        MaskLayers page = new MaskLayers(3, 3);
        page.put(0, 0, 1, 0x0A0003);
        page.put(1, 0, 1, 0x050500);
        page.put(0, 1, 1, 0x080000);
        page.mask(1, 1, 2, true);
        page.mask(2, 0, 1, true);
        page.mask(0, 2, 3, true);
        page.run(8, 1, true);
        int[][] due = {{0x0A0003, 0x050500, 0x050500}, {0x080000, 0x060200, 0x050300}, {0x080000, 0x070100, 0x060200}};
        for (int y = 0; y < 3; y++) {
            for (int x = 0; x < 3; x++) {
                Checks.is("6: filled block " + x + ", " + y, page.layer(0, x, y), due[y][x]);
                Checks.is("7: filled " + x + ", " + y, page.filled(0, x, y), x + y > 1 || x == 1 && y == 1);
                Checks.is("7: the FORE is not", page.filled(2, x, y), false);
            }
        }
    }

    private static void firstFill() {
        MaskLayers page = new MaskLayers(6, 5);
        page.stripe(4);
        page.mask(4, 1, 2, true);
        page.put(4, 1, 2, 0x123456);
        page.mask(0, 3, 1, true);
        page.put(0, 3, 1, 0x010101);
        Checks.is("5: both stripes", page.run(2, 1, false), 4);
        Checks.is("6: the first block has the first one's", page.layer(2, 0, 0), 0x123456);
        Checks.is("6: the next one has it from the left", page.layer(2, 3, 1), 0x123456);
        Checks.is("6: the next row", page.layer(2, 0, 2), 0x010101);
        Checks.is("6: left and above", page.layer(2, 2, 3), 0x091A2B);
        Checks.is("6: left and above, rounded down", page.layer(2, 4, 3), 0x0D2740);
        Checks.is("7: the first block", page.filled(2, 1, 1), true);
        Checks.is("7: the second block", page.filled(2, 2, 0), true);
        Checks.is("7: the third block", page.filled(2, 4, 0), false);
        Checks.is("7: the fourth block", page.filled(2, 0, 2), false);
        Checks.is("7: the fifth block", page.filled(2, 2, 2), true);
        Checks.is("7: the BACK's own scale", page.filled(0, 4, 1), true);
        Checks.is("7: the BACK's own scale", page.filled(0, 4, 0), false);
        Checks.is("7: no FORE in the last stripe", page.filled(2, 0, 4), false);
        page.mask(0, 0, 1, true);
        page.mask(4, 1, 2, false);
        page.run(2, 1, false);
        Checks.is("7: no longer", page.filled(2, 0, 0), false);
        Checks.is("7: no longer", page.filled(0, 4, 1), false);
        Checks.is("7: from now on", page.filled(2, 4, 1), true);
    }

    private static void rest() {
        MaskLayers page = new MaskLayers(2, 2);
        page.put(0, 0, 1, 0xFF0080);
        page.put(1, 0, 1, 0x00FF80);
        page.stripe(1);
        Checks.is("5: a REST for the first stripe alone", page.run(1, 2, true), 3);
        Checks.is("6: BACK", page.layer(0, 0, 0), 0x808080);
        Checks.is("6: REST, modulo 256", page.layer(3, 0, 0), 0x7F8000);
        Checks.is("6: REST, modulo 256", page.layer(3, 1, 0), 0x807F00);
        Checks.is("6: no REST", page.layer(3, 1, 1), MaskLayers.NONE);
        Checks.is("8: joined without the REST", page.joined(0, 0), 0x808080);
    }

    private static void layersStay() {
        MaskLayers page = new MaskLayers(4, 4);
        page.put(0, 0, 4, 77);
        page.mask(0, 1, 4, true);
        page.stripe(2);
        page.run(2, 3, true);
        page.put(0, 0, 4, 99);
        page.put(0, 3, 4, 98);
        page.mask(0, 1, 4, false);
        page.mask(0, 3, 4, true);
        page.stripe(1);
        Checks.is("5: layers stay", page.layer(0, 0, 0), 77);
        Checks.is("5: layers stay", page.layer(0, 0, 1), 77);
        Checks.is("5: layers stay", page.layer(1, 0, 1), 1);
        Checks.is("5: layers stay", page.layer(2, 0, 1), 0);
        Checks.is("5: layers stay", page.layer(1, 0, 3), MaskLayers.NONE);
        Checks.is("5: layers stay", page.joined(0, 3), 0);
        page.write();
        Checks.is("9: the STEP of the run", page.byteAt(4), 2);
        page.run(2, 3, true);
        Checks.is("5: until the next run", page.layer(0, 0, 0), 99);
        Checks.is("5: until the next run", page.layer(2, 0, 3), 98);
        Checks.is("5: until the next run", page.layer(1, 0, 1), MaskLayers.NONE);
    }

    private static void wrongPlaces() {
        MaskLayers page = new MaskLayers(4, 3);
        page.run(1, 1, true);
        int[][] places = {{-1, 0}, {4, 0}, {0, -1}, {0, 3}, {Integer.MAX_VALUE, 0}, {0, Integer.MIN_VALUE}};
        for (int[] p : places) {
            Checks.noPlace("6: no sample", () -> page.layer(0, p[0], p[1]));
            Checks.noPlace("6: no sample goes before no layer", () -> page.layer(7, p[0], p[1]));
            Checks.noPlace("7: no sample", () -> page.filled(0, p[0], p[1]) ? 1 : 0);
            Checks.noPlace("7: no sample goes before no layer", () -> page.filled(1, p[0], p[1]) ? 1 : 0);
            Checks.noPlace("8: no sample", () -> page.joined(p[0], p[1]));
        }
        int[] layers = {Integer.MIN_VALUE, -1, 4, Integer.MAX_VALUE};
        for (int layer : layers) {
            Checks.noArgument("6: layer " + layer, () -> page.layer(layer, 0, 0));
            Checks.noArgument("7: layer " + layer, () -> page.filled(layer, 0, 0) ? 1 : 0);
        }
        Checks.noArgument("7: the MASK", () -> page.filled(1, 0, 0) ? 1 : 0);
        Checks.noArgument("7: the REST", () -> page.filled(3, 0, 0) ? 1 : 0);
    }
}
