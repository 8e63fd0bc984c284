import java.util.ArrayList;
import java.util.List;
import java.util.Random;

/**
 * Promises 2, 3, 5 to 10 and 12 to 15 on many pages, against a second, plainer program that holds
 * each stripe by itself, value by value, and reads by exceptions. It shares the class's reading of
 * the document, so it finds slips, not misreadings. A page is made anew whenever its object would
 * get more than the 512 calls that the document promises answers for.
 */
public final class ModelTest {
    private static final int PAGES = 600;

    public static void main(String[] args) {
        Random random = new Random(20261115);
        for (int k = 0; k < PAGES; k++) {
            onePage(random, k);
        }
        fullestPage();
        Checks.end();
    }

    /** One stripe's layers: of BACK and FORE by blocks, null where there is none. */
    private static final class Stripe {
        int top;
        int rows;
        int[][] values = new int[4][];
        boolean[][] filled = new boolean[4][];
    }

    private static final class Model {
        int width;
        int height;
        int step;
        int[] scales = {1, 1, 1, 1};
        List<Stripe> stripes = new ArrayList<>();

        Model(int width, int height, int step, int fore, int back) {
            this.width = width;
            this.height = height;
            this.step = step;
            scales[0] = back;
            scales[2] = fore;
            for (int top = 0; top < height; top += step) {
                Stripe s = new Stripe();
                s.top = top;
                s.rows = Math.min(step, height - top);
                stripes.add(s);
            }
        }

        int across(int layer) {
            return (int) Math.ceil(width / (double) scales[layer]);
        }

        int down(Stripe s, int layer) {
            return (int) Math.ceil(s.rows / (double) scales[layer]);
        }

        Stripe at(int y) {
            return stripes.get(y / step);
        }

        int block(int layer, int x, int y) {
            return (y - at(y).top) / scales[layer] * across(layer) + x / scales[layer];
        }

        int value(int layer, int x, int y) {
            return at(y).values[layer] == null ? -1 : at(y).values[layer][block(layer, x, y)];
        }

        int joined(int x, int y) {
            return Math.max(0, value(value(1, x, y) == 1 ? 2 : 0, x, y));
        }

        int exact(int x, int y) {
            int rest = Math.max(0, value(3, x, y));
            int colour = 0;
            for (int shift = 16; shift >= 0; shift -= 8) {
                colour = colour * 256 + (part(joined(x, y), shift) + part(rest, shift)) % 256;
            }
            return colour;
        }

        int layers() {
            int many = 0;
            for (Stripe s : stripes) {
                for (int[] layer : s.values) {
                    many += layer == null ? 0 : 1;
                }
            }
            return many;
        }
    }

    private static int part(int colour, int shift) {
        return colour / (1 << shift) % 256;
    }

    private static Model modelOf(int[][] colours, boolean[][] masked, int step, int fore, int back, boolean exact) {
        Model m = new Model(colours[0].length, colours.length, step, fore, back);
        for (Stripe s : m.stripes) {
            int front = 0;
            for (int y = s.top; y < s.top + s.rows; y++) {
                for (int x = 0; x < m.width; x++) {
                    front += masked[y][x] ? 1 : 0;
                }
            }
            if (front < m.width * s.rows) {
                blocks(m, s, 0, colours, masked);
            }
            if (front > 0) {
                s.values[1] = new int[m.width * s.rows];
                for (int i = 0; i < s.values[1].length; i++) {
                    s.values[1][i] = masked[s.top + i / m.width][i % m.width] ? 1 : 0;
                }
                blocks(m, s, 2, colours, masked);
            }
            if (exact) {
                rest(m, s, colours);
            }
        }
        return m;
    }

    private static void blocks(Model m, Stripe s, int layer, int[][] colours, boolean[][] masked) {
        int across = m.across(layer);
        int many = across * m.down(s, layer);
        long[][] sums = new long[many][4];
        for (int y = s.top; y < s.top + s.rows; y++) {
            for (int x = 0; x < m.width; x++) {
                if (masked[y][x] == (layer == 2)) {
                    long[] sum = sums[m.block(layer, x, y)];
                    sum[0] += part(colours[y][x], 16);
                    sum[1] += part(colours[y][x], 8);
                    sum[2] += part(colours[y][x], 0);
                    sum[3]++;
                }
            }
        }
        int[] values = new int[many];
        boolean[] filled = new boolean[many];
        for (int i = 0; i < many; i++) {
            filled[i] = sums[i][3] == 0;
            for (int p = 0; p < 3 && !filled[i]; p++) {
                values[i] = values[i] * 256 + (int) Math.floor(sums[i][p] / (double) sums[i][3] + 0.5);
            }
        }
        for (int i = 0; i < many; i++) {
            if (filled[i]) {
                values[i] = fill(values, filled, i, across);
            }
        }
        s.values[layer] = values;
        s.filled[layer] = filled;
    }

    private static int fill(int[] values, boolean[] filled, int i, int across) {
        if (i == 0) {
            int k = 0;
            while (filled[k]) {
                k++;
            }
            return values[k];
        }
        if (i < across) {
            return values[i - 1];
        }
        if (i % across == 0) {
            return values[i - across];
        }
        int colour = 0;
        for (int shift = 16; shift >= 0; shift -= 8) {
            colour = colour * 256 + (part(values[i - 1], shift) + part(values[i - across], shift)) / 2;
        }
        return colour;
    }

    private static void rest(Model m, Stripe s, int[][] colours) {
        int[] rest = new int[m.width * s.rows];
        boolean other = false;
        for (int i = 0; i < rest.length; i++) {
            int x = i % m.width;
            int y = s.top + i / m.width;
            other |= m.joined(x, y) != colours[y][x];
            for (int shift = 16; shift >= 0; shift -= 8) {
                rest[i] = rest[i] * 256 + (part(colours[y][x], shift) - part(m.joined(x, y), shift) + 256) % 256;
            }
        }
        s.values[3] = other ? rest : null;
    }

    private static List<Integer> bytesOf(Model m) {
        List<Integer> all = new ArrayList<>(List.of(77, 76, m.width, m.height, m.step, m.scales[2], m.scales[0]));
        for (Stripe s : m.stripes) {
            for (int layer = 0; layer < 4; layer++) {
                if (s.values[layer] != null) {
                    List<Integer> plain = plain(layer, s.values[layer]);
                    List<Integer> runs = runs(layer, s.values[layer]);
                    List<Integer> taken = runs.size() < plain.size() ? runs : plain;
                    all.addAll(List.of(160 + layer, taken == runs ? 1 : 0, taken.size() % 256, taken.size() / 256));
                    all.addAll(taken);
                }
            }
            all.add(175);
        }
        return all;
    }

    private static List<Integer> plain(int layer, int[] values) {
        List<Integer> bytes = new ArrayList<>();
        for (int i = 0; i < values.length; i++) {
            if (layer != 1) {
                bytes.addAll(List.of(part(values[i], 16), part(values[i], 8), part(values[i], 0)));
                continue;
            }
            if (i % 8 == 0) {
                bytes.add(0);
            }
            bytes.set(i / 8, bytes.get(i / 8) + values[i] * (128 >> i % 8));
        }
        return bytes;
    }

    private static List<Integer> runs(int layer, int[] values) {
        List<Integer> bytes = new ArrayList<>();
        int i = 0;
        while (i < values.length) {
            int n = 1;
            while (n < 255 && i + n < values.length && values[i + n] == values[i]) {
                n++;
            }
            bytes.add(n);
            bytes.addAll(layer == 1 ? List.of(values[i])
                : List.of(part(values[i], 16), part(values[i], 8), part(values[i], 0)));
            i += n;
        }
        return bytes;
    }

    private static final class Refused extends Exception {
        private static final long serialVersionUID = 1L;
        final int place;

        Refused(int place) {
            this.place = place;
        }
    }

    private static final class ModelReader {
        final List<Integer> bytes;
        int place = 0;

        ModelReader(List<Integer> bytes) {
            this.bytes = bytes;
        }

        int next() throws Refused {
            if (place == bytes.size()) {
                throw new Refused(place);
            }
            return bytes.get(place++);
        }

        int next(int least, int most) throws Refused {
            int b = next();
            unless(b >= least && b <= most, place - 1);
            return b;
        }

        void unless(boolean fine, int at) throws Refused {
            if (!fine) {
                throw new Refused(at);
            }
        }

        Model all() throws Refused {
            next(77, 77);
            next(76, 76);
            int width = next(1, 24);
            int height = next(1, 24);
            int step = next(1, 24);
            int fore = next(1, 8);
            Model m = new Model(width, height, step, fore, next(1, 8));
            for (Stripe s : m.stripes) {
                stripe(m, s);
            }
            unless(place == bytes.size(), place);
            return m;
        }

        void stripe(Model m, Stripe s) throws Refused {
            int last = 159;
            while (true) {
                int mark = next();
                int at = place - 1;
                boolean back = s.values[0] != null;
                boolean mask = s.values[1] != null;
                boolean front = s.values[2] != null;
                unless(mark >= 160 && mark <= 163 || mark == 175, at);
                unless(mark > last, at);
                unless(mark != 162 || mask, at);
                unless(mark != 163 || back || front, at);
                if (mark == 175) {
                    unless(!mask || front, at);
                    unless(back || front, at);
                    return;
                }
                last = mark;
                s.values[mark - 160] = layer(mark - 160, m.across(mark - 160) * m.down(s, mark - 160));
            }
        }

        int[] layer(int layer, int many) throws Refused {
            int kind = next(0, 1);
            int at = place;
            int number = next() + 256 * next();
            int[] values = new int[many];
            if (kind == 0) {
                unless(number == (layer == 1 ? (many + 7) / 8 : 3 * many), at);
                for (int i = 0; i < (layer == 1 ? number * 8 : many); i++) {
                    if (layer != 1) {
                        values[i] = value(layer);
                        continue;
                    }
                    int b = i % 8 == 0 ? next() : bytes.get(place - 1);
                    int bit = b / (128 >> i % 8) % 2;
                    unless(i < many || bit == 0, place - 1);
                    if (i < many) {
                        values[i] = bit;
                    }
                }
                return values;
            }
            int i = 0;
            while (i < many) {
                int n = next(1, many - i);
                int v = value(layer);
                for (int k = 0; k < n; k++) {
                    values[i++] = v;
                }
            }
            unless(place - at - 2 == number, at);
            return values;
        }

        int value(int layer) throws Refused {
            return layer == 1 ? next(0, 1) : next() * 65536 + next() * 256 + next();
        }
    }

    /** A page and its run, of which objects can be made again and again, with some 65 calls each. */
    private static final class Page {
        final int width;
        final int height;
        final int step;
        final int fore;
        final int back;
        final boolean exact;
        final int[][] colours;
        final boolean[][] masked;
        /** Each one x, y, n, and a colour, or -1 to mask and -2 not to. */
        final List<int[]> strokes = new ArrayList<>();

        Page(Random random) {
            width = 1 + random.nextInt(24);
            height = 1 + random.nextInt(24);
            step = random.nextInt(3) == 0 ? 24 : 1 + random.nextInt(24);
            fore = 1 + random.nextInt(8);
            back = 1 + random.nextInt(8);
            exact = random.nextBoolean();
            colours = new int[height][width];
            masked = new boolean[height][width];
            int[] palette = {0, 0xFFFFFF, random.nextInt(1 << 24), random.nextInt(1 << 24)};
            int many = random.nextInt(60);
            for (int k = 0; k < many; k++) {
                int colour = random.nextInt(3) == 0 ? random.nextInt(1 << 24) : palette[random.nextInt(4)];
                int what = random.nextBoolean() ? colour : random.nextInt(3) > 0 ? -1 : -2;
                strokes.add(new int[] {random.nextInt(width), random.nextInt(height), 1 + random.nextInt(30), what});
            }
        }

        static int make(MaskLayers made, int[] s) {
            return s[3] >= 0 ? made.put(s[0], s[1], s[2], s[3]) : made.mask(s[0], s[1], s[2], s[3] == -1);
        }

        /** What a stroke changes on the model's side. */
        int paint(int[] s) {
            int changed = 0;
            for (int x = s[0]; x < Math.min(width, s[0] + s[2]); x++) {
                int colour = s[3] >= 0 ? s[3] : colours[s[1]][x];
                boolean on = s[3] >= 0 ? masked[s[1]][x] : s[3] == -1;
                changed += colour != colours[s[1]][x] || on != masked[s[1]][x] ? 1 : 0;
                colours[s[1]][x] = colour;
                masked[s[1]][x] = on;
            }
            return changed;
        }

        MaskLayers ran() {
            MaskLayers made = new MaskLayers(width, height);
            for (int[] s : strokes) {
                make(made, s);
            }
            made.stripe(step);
            made.run(fore, back, exact);
            return made;
        }

        MaskLayers written() {
            MaskLayers made = ran();
            made.write();
            return made;
        }

        MaskLayers fed() {
            MaskLayers made = written();
            made.pass(0, 9999);
            return made;
        }
    }

    private static void onePage(Random random, int number) {
        Page page = new Page(random);
        String name = "page " + number;
        MaskLayers made = new MaskLayers(page.width, page.height);
        for (int[] s : page.strokes) {
            Checks.is("2, 3: " + name, Page.make(made, s), page.paint(s));
        }
        Model model = modelOf(page.colours, page.masked, page.step, page.fore, page.back, page.exact);
        List<Integer> bytes = bytesOf(model);
        made.stripe(page.step);
        Checks.is("5: " + name, made.run(page.fore, page.back, page.exact), model.layers());
        Checks.is("9: " + name, made.write(), bytes.size());
        Checks.is("12: " + name, made.pass(0, bytes.size()), bytes.size());
        Checks.is("14: " + name, made.read(), model.layers());
        compareLayers(name, page, model);
        compareBytes(name, page, bytes);
        compareRead(name, page, model);
        spoil(random, name, page, bytes);
    }

    private static void compareLayers(String name, Page page, Model model) {
        MaskLayers made = null;
        for (int i = 0; i < page.width * page.height; i++) {
            made = i % 60 == 0 ? page.ran() : made;
            compareSample(name, made, model, i % page.width, i / page.width);
        }
    }

    private static void compareSample(String name, MaskLayers made, Model model, int x, int y) {
        for (int layer = 0; layer < 4; layer++) {
            Checks.is("6: " + name, made.layer(layer, x, y), model.value(layer, x, y));
        }
        for (int layer = 0; layer < 4; layer += 2) {
            boolean[] filled = model.at(y).filled[layer];
            Checks.is("7: " + name, made.filled(layer, x, y), filled != null && filled[model.block(layer, x, y)]);
        }
        Checks.is("8: " + name, made.joined(x, y), model.joined(x, y));
    }

    private static void compareBytes(String name, Page page, List<Integer> bytes) {
        MaskLayers made = null;
        for (int i = 0; i < bytes.size(); i++) {
            made = i % 400 == 0 ? page.written() : made;
            Checks.is("10: " + name + " byte " + i, made.byteAt(i), bytes.get(i));
        }
    }

    private static void compareRead(String name, Page page, Model model) {
        MaskLayers made = null;
        for (int i = 0; i < page.width * page.height; i++) {
            if (i % 400 == 0) {
                made = page.fed();
                made.read();
            }
            int x = i % page.width;
            int y = i / page.width;
            Checks.is("15: " + name, made.at(x, y), page.exact ? page.colours[y][x] : model.joined(x, y));
        }
    }

    /** Some bytes become others, and reading must agree each time. */
    private static void spoil(Random random, String name, Page page, List<Integer> bytes) {
        int[] likely = {0, 1, 2, 3, 8, 24, 76, 77, 160, 161, 162, 163, 175, 254, 255};
        List<Integer> spoilt = new ArrayList<>(bytes);
        for (int k = 0; k < 60; k++) {
            int i = random.nextInt(random.nextBoolean() ? bytes.size() : Math.min(20, bytes.size()));
            int before = spoilt.get(i);
            int b = random.nextBoolean() ? likely[random.nextInt(likely.length)] : random.nextInt(256);
            if (random.nextInt(3) == 0) {
                b = Math.max(0, Math.min(255, before + random.nextInt(3) - 1));
            }
            spoilt.set(i, b);
            compareReading(name + " with " + b + " at " + i, page.fed(), bytes, spoilt);
            if (random.nextInt(4) > 0) {
                spoilt.set(i, before);
            }
        }
    }

    private static void compareReading(String name, MaskLayers made, List<Integer> bytes, List<Integer> spoilt) {
        for (int i = 0; i < bytes.size(); i++) {
            if (!bytes.get(i).equals(spoilt.get(i))) {
                Checks.is("13: " + name, made.alter(i, spoilt.get(i)), bytes.get(i));
            }
        }
        Model model;
        try {
            model = new ModelReader(spoilt).all();
        } catch (Refused refused) {
            Checks.is("14: " + name, made.read(), -1 - refused.place);
            Checks.is("14: " + name + " told(6)", made.told(6), 0);
            return;
        }
        Checks.is("14: " + name, made.read(), model.layers());
        int samples = model.width * model.height;
        for (int i = 0; i < samples; i += 1 + samples / 300) {
            int x = i % model.width;
            int y = i / model.width;
            Checks.is("15: " + name, made.at(x, y), model.exact(x, y));
        }
    }

    /** What takes the most bytes must still be written and fed whole. */
    private static void fullestPage() {
        for (int step = 1; step <= 24; step++) {
            MaskLayers page = new MaskLayers(24, 24);
            for (int i = 1; i < 576; i += 2) {
                page.put(i % 24, i / 24, 1, i * 77731 & 0xFFFFFF);
            }
            for (int i = 0; i < 576; i += 4) {
                page.mask(i % 24, i / 24, 2, true);
            }
            page.stripe(step);
            page.run(1, 2, true);
            int many = page.write();
            Checks.is("12: all of the fullest page", page.pass(0, many), many);
            Checks.is("14: the fullest page", page.read(), page.told(8));
            for (int k = 0; k < 64; k++) {
                int i = (step + 9 * k) % 576;
                Checks.is("15: the fullest page", page.at(i % 24, i / 24), i % 2 == 1 ? i * 77731 & 0xFFFFFF : 0);
            }
        }
    }
}
