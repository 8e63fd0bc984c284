import java.util.Arrays;

/**
 * Pages in layers: a mask tells samples in front from those behind, both have their colours in
 * blocks of their own sizes, stripe by stripe; a rest makes the page exact again. The layers are
 * written as bytes, and bytes that were fed are read and joined to a page again.
 */
public final class MaskLayers {
    public static final int NONE = -1;

    private static final int LONGEST_SIDE = 24;
    private static final int LARGEST_SCALE = 8;
    private static final int LARGEST_COLOUR = 16777215;
    private static final int LARGEST_BYTE = 255;
    private static final int MOST_BYTES = 6400;
    private static final int LONGEST_RUN = 255;

    private static final int BACK = 0;
    private static final int MASK = 1;
    private static final int FORE = 2;
    private static final int REST = 3;

    private static final int FIRST_LETTER = 77;
    private static final int SECOND_LETTER = 76;
    private static final int FIRST_MARK = 160;
    private static final int END_MARK = 175;
    private static final int PLAIN = 0;
    private static final int RUNS = 1;

    /** The bounds of the bytes before the first stripe: letters, width, height, STEP, SCALES. */
    private static final int[] HEAD_LEAST = {77, 76, 1, 1, 1, 1, 1};
    private static final int[] HEAD_MOST = {77, 76, 24, 24, 24, 8, 8};

    private final int width;
    private final int height;
    private final int[] colours;
    private final int[] masked;
    private final Layers made;
    private final Layers found;
    private final ByteRow written;
    private final ByteRow fed;
    private final Maker maker;
    private final Writer writer;
    private final Reader reader;
    private int step;

    public MaskLayers(int width, int height) {
        this.width = Math.max(1, Math.min(LONGEST_SIDE, width));
        this.height = Math.max(1, Math.min(LONGEST_SIDE, height));
        int samples = this.width * this.height;
        colours = new int[samples];
        masked = new int[samples];
        made = new Layers(samples);
        found = new Layers(LONGEST_SIDE * LONGEST_SIDE);
        written = new ByteRow();
        fed = new ByteRow();
        maker = new Maker(made, colours, masked);
        writer = new Writer(made, written);
        reader = new Reader(fed, found);
        step = LONGEST_SIDE;
    }

    public int put(int x, int y, int n, int colour) throws IndexOutOfBoundsException, IllegalArgumentException {
        if (!hasSample(x, y)) {
            throw new IndexOutOfBoundsException("there is no such sample");
        }
        if (n < 1 || colour < 0 || colour > LARGEST_COLOUR) {
            throw new IllegalArgumentException("n is below 1, or there is no such colour");
        }
        return change(colours, x, y, n, colour);
    }

    public int mask(int x, int y, int n, boolean on) throws IndexOutOfBoundsException, IllegalArgumentException {
        if (!hasSample(x, y)) {
            throw new IndexOutOfBoundsException("there is no such sample");
        }
        if (n < 1) {
            throw new IllegalArgumentException("n is below 1");
        }
        return change(masked, x, y, n, on ? 1 : 0);
    }

    public int stripe(int step) throws IllegalArgumentException {
        if (step < 1 || step > LONGEST_SIDE) {
            throw new IllegalArgumentException("there is no such step");
        }
        this.step = step;
        return parts(height, step);
    }

    public int run(int fore, int back, boolean exact) throws IllegalArgumentException {
        if (fore < 1 || fore > LARGEST_SCALE || back < 1 || back > LARGEST_SCALE) {
            throw new IllegalArgumentException("there is no such scale");
        }
        made.shape(width, height, step, fore, back);
        return maker.makeAll(exact);
    }

    public int layer(int layer, int x, int y) throws IllegalStateException, IndexOutOfBoundsException, IllegalArgumentException {
        if (made.count == 0) {
            throw new IllegalStateException("nothing was run");
        }
        if (!made.hasSample(x, y)) {
            throw new IndexOutOfBoundsException("there is no such sample");
        }
        if (layer < BACK || layer > REST) {
            throw new IllegalArgumentException("there is no such layer");
        }
        return made.valueAt(layer, x, y);
    }

    public boolean filled(int layer, int x, int y) throws IllegalStateException, IndexOutOfBoundsException, IllegalArgumentException {
        if (made.count == 0) {
            throw new IllegalStateException("nothing was run");
        }
        if (!made.hasSample(x, y)) {
            throw new IndexOutOfBoundsException("there is no such sample");
        }
        if (layer != BACK && layer != FORE) {
            throw new IllegalArgumentException("the layer has no blocks");
        }
        return maker.wasFilled(layer, x, y);
    }

    public int joined(int x, int y) throws IllegalStateException, IndexOutOfBoundsException {
        if (made.count == 0) {
            throw new IllegalStateException("nothing was run");
        }
        if (!made.hasSample(x, y)) {
            throw new IndexOutOfBoundsException("there is no such sample");
        }
        return made.joinedAt(x, y);
    }

    public int write() throws IllegalStateException {
        if (made.count == 0) {
            throw new IllegalStateException("nothing was run");
        }
        return writer.writeAll();
    }

    public int byteAt(int i) throws IndexOutOfBoundsException {
        if (!written.holds(i)) {
            throw new IndexOutOfBoundsException("there is no such byte");
        }
        return written.valueAt(i);
    }

    public int feed(int b) throws IllegalArgumentException, UnsupportedOperationException {
        if (!isByte(b)) {
            throw new IllegalArgumentException("this is no byte");
        }
        if (fed.room() < 1) {
            throw new UnsupportedOperationException("there is no room");
        }
        fed.append(b);
        return fed.count;
    }

    public int pass(int from, int n) throws IndexOutOfBoundsException, IllegalArgumentException, UnsupportedOperationException {
        if (!written.holds(from)) {
            throw new IndexOutOfBoundsException("there is no such byte");
        }
        if (n < 0) {
            throw new IllegalArgumentException("n is below 0");
        }
        int many = Math.min(n, written.count - from);
        if (fed.room() < many) {
            throw new UnsupportedOperationException("there is no room");
        }
        for (int k = 0; k < many; k++) {
            fed.append(written.valueAt(from + k));
        }
        return many;
    }

    public int alter(int i, int b) throws IndexOutOfBoundsException, IllegalArgumentException {
        if (!fed.holds(i)) {
            throw new IndexOutOfBoundsException("there is no such byte");
        }
        if (!isByte(b)) {
            throw new IllegalArgumentException("this is no byte");
        }
        return fed.replace(i, b);
    }

    public int read() {
        return reader.readAll();
    }

    public int at(int x, int y) throws IllegalStateException, IndexOutOfBoundsException {
        if (found.count == 0) {
            throw new IllegalStateException("nothing was read");
        }
        if (!found.hasSample(x, y)) {
            throw new IndexOutOfBoundsException("there is no such sample");
        }
        return found.exactAt(x, y);
    }

    public int told(int what) {
        switch (what) {
            case 0: return width;
            case 1: return height;
            case 2: return parts(height, step);
            case 3: return maskedSamples();
            case 4: return written.count;
            case 5: return fed.count;
            case 6: return found.count == 0 ? 0 : found.width;
            case 7: return found.count == 0 ? 0 : found.height;
            case 8: return made.count;
            default: return NONE;
        }
    }

    public void clear() {
        Arrays.fill(colours, 0);
        Arrays.fill(masked, 0);
        step = LONGEST_SIDE;
        made.forget();
        found.forget();
        written.empty();
        fed.empty();
    }

    private boolean hasSample(int x, int y) {
        return x >= 0 && x < width && y >= 0 && y < height;
    }

    /** Samples of one row of the page get a value: how many had another one. */
    private int change(int[] samples, int x, int y, int n, int value) {
        int changed = 0;
        int first = y * width + x;
        int end = first + Math.min(n, width - x);
        for (int i = first; i < end; i++) {
            if (samples[i] != value) {
                samples[i] = value;
                changed++;
            }
        }
        return changed;
    }

    private int maskedSamples() {
        int many = 0;
        for (int i = 0; i < masked.length; i++) {
            many += masked[i];
        }
        return many;
    }

    private static boolean isByte(int b) {
        return b >= 0 && b <= LARGEST_BYTE;
    }

    /** Into how many parts of a size a length falls, the last one being what is left. */
    private static int parts(int length, int size) {
        return size < 1 ? 0 : (length + size - 1) / size;
    }

    private static int red(int colour) {
        return colour >> 16 & 255;
    }

    private static int green(int colour) {
        return colour >> 8 & 255;
    }

    private static int blue(int colour) {
        return colour & 255;
    }

    /** The colour of three parts, each modulo 256. */
    private static int colourOf(int red, int green, int blue) {
        return (red & 255) << 16 | (green & 255) << 8 | blue & 255;
    }

    private static int sum(int a, int b) {
        return colourOf(red(a) + red(b), green(a) + green(b), blue(a) + blue(b));
    }

    private static int difference(int a, int b) {
        return colourOf(red(a) - red(b), green(a) - green(b), blue(a) - blue(b));
    }

    private static int middle(int a, int b) {
        return colourOf((red(a) + red(b)) / 2, (green(a) + green(b)) / 2, (blue(a) + blue(b)) / 2);
    }

    /** The mean of n numbers with this sum, halves up. */
    private static int mean(int sum, int n) {
        return n < 1 ? 0 : (2 * sum + n) / (2 * n);
    }

    /** How many bytes so many values of a layer take in KIND 0. */
    private static int plainBytes(int layer, int values) {
        return layer == MASK ? parts(values, 8) : 3 * values;
    }

    /** The layers of all stripes, be they made or read; there are none while the count is 0. */
    private static final class Layers {
        /** For each layer its values, those of a stripe one behind another from the stripe's first sample on. */
        private final int[][] values;
        /** For each stripe a bit for each layer that it has. */
        private final int[] there;
        private int width;
        private int height;
        private int step;
        private int foreScale;
        private int backScale;
        private int count;

        Layers(int samples) {
            values = new int[REST + 1][samples];
            there = new int[LONGEST_SIDE];
        }

        void forget() {
            Arrays.fill(there, 0);
            count = 0;
        }

        void shape(int width, int height, int step, int foreScale, int backScale) {
            this.width = width;
            this.height = height;
            this.step = step;
            this.foreScale = foreScale;
            this.backScale = backScale;
        }

        private boolean holdsStripe(int stripe) {
            return stripe >= 0 && stripe < there.length;
        }

        void add(int stripe, int layer) {
            if (holdsStripe(stripe)) {
                there[stripe] |= 1 << layer;
                count++;
            }
        }

        boolean has(int stripe, int layer) {
            return holdsStripe(stripe) && (there[stripe] >> layer & 1) == 1;
        }

        private boolean holdsPlace(int layer, int place) {
            return layer >= 0 && layer < values.length && place >= 0 && place < values[layer].length;
        }

        int value(int layer, int place) {
            return holdsPlace(layer, place) ? values[layer][place] : NONE;
        }

        void set(int layer, int place, int value) {
            if (holdsPlace(layer, place)) {
                values[layer][place] = value;
            }
        }

        boolean hasSample(int x, int y) {
            return x >= 0 && x < width && y >= 0 && y < height;
        }

        int stripes() {
            return parts(height, step);
        }

        int stripeOf(int y) {
            return step < 1 ? 0 : y / step;
        }

        int topOf(int stripe) {
            return stripe * step;
        }

        /** The row behind a stripe's last one. */
        int bottomOf(int stripe) {
            return Math.min(stripe * step + step, height);
        }

        /** MASK and REST count as layers of blocks of one sample, so that all four are held alike. */
        int scaleOf(int layer) {
            return layer == FORE ? foreScale : layer == BACK ? backScale : 1;
        }

        /** How many blocks of a layer stand side by side. */
        int columnsOf(int layer) {
            return parts(width, scaleOf(layer));
        }

        /** How many blocks of a layer stand one above another in a stripe. */
        int rowsOf(int stripe, int layer) {
            return parts(bottomOf(stripe) - topOf(stripe), scaleOf(layer));
        }

        /** Where a stripe's values begin, in each of the layers. */
        int startOf(int stripe) {
            return stripe * step * width;
        }

        /** The place behind a stripe's last value in a layer. */
        int endOf(int stripe, int layer) {
            return startOf(stripe) + columnsOf(layer) * rowsOf(stripe, layer);
        }

        /** The place of a sample's value in a layer; NONE while the layers have no shape. */
        int placeOf(int layer, int x, int y) {
            int scale = scaleOf(layer);
            if (scale < 1) {
                return NONE;
            }
            int top = topOf(stripeOf(y));
            return top * width + (y - top) / scale * columnsOf(layer) + x / scale;
        }

        int valueAt(int layer, int x, int y) {
            return has(stripeOf(y), layer) ? value(layer, placeOf(layer, x, y)) : NONE;
        }

        int joinedAt(int x, int y) {
            int colour = valueAt(valueAt(MASK, x, y) == 1 ? FORE : BACK, x, y);
            return colour == NONE ? 0 : colour;
        }

        int exactAt(int x, int y) {
            int rest = valueAt(REST, x, y);
            return rest == NONE ? joinedAt(x, y) : sum(joinedAt(x, y), rest);
        }
    }

    /** Makes layers of a page's samples. */
    private static final class Maker {
        private final Layers layers;
        private final int[] colours;
        private final int[] masked;
        /** For each place of a block a bit for each layer in which it was FILLED. */
        private final int[] bare;

        Maker(Layers layers, int[] colours, int[] masked) {
            this.layers = layers;
            this.colours = colours;
            this.masked = masked;
            bare = new int[colours.length];
        }

        int makeAll(boolean exact) {
            layers.forget();
            Arrays.fill(bare, 0);
            for (int stripe = 0; stripe < layers.stripes(); stripe++) {
                makeStripe(stripe, exact);
            }
            return layers.count;
        }

        boolean wasFilled(int layer, int x, int y) {
            int place = layers.placeOf(layer, x, y);
            return layers.has(layers.stripeOf(y), layer) && holds(bare, place) && (bare[place] >> layer & 1) == 1;
        }

        private static boolean holds(int[] row, int place) {
            return place >= 0 && place < row.length;
        }

        private boolean isMasked(int place) {
            return holds(masked, place) && masked[place] == 1;
        }

        private int colourAt(int place) {
            return holds(colours, place) ? colours[place] : 0;
        }

        private void makeStripe(int stripe, boolean exact) {
            int inFront = takeMask(stripe);
            if (inFront < layers.endOf(stripe, MASK) - layers.startOf(stripe)) {
                fillBlocks(stripe, BACK, makeBlocks(stripe, BACK));
                layers.add(stripe, BACK);
            }
            if (inFront > 0) {
                layers.add(stripe, MASK);
                fillBlocks(stripe, FORE, makeBlocks(stripe, FORE));
                layers.add(stripe, FORE);
            }
            if (exact && makeRest(stripe)) {
                layers.add(stripe, REST);
            }
        }

        /** Copies a stripe's mask: how many of its samples are MASKED. */
        private int takeMask(int stripe) {
            int inFront = 0;
            int end = layers.endOf(stripe, MASK);
            for (int place = layers.startOf(stripe); place < end; place++) {
                int value = isMasked(place) ? 1 : 0;
                layers.set(MASK, place, value);
                inFront += value;
            }
            return inFront;
        }

        /** Gives blocks their means, NONE to those to be FILLED: the first mean. */
        private int makeBlocks(int stripe, int layer) {
            int rows = layers.rowsOf(stripe, layer);
            int columns = layers.columnsOf(layer);
            int place = layers.startOf(stripe);
            int first = NONE;
            for (int row = 0; row < rows; row++) {
                for (int column = 0; column < columns; column++) {
                    int mean = meanOfBlock(stripe, layer, column, row);
                    layers.set(layer, place, mean);
                    first = first == NONE ? mean : first;
                    place++;
                }
            }
            return first;
        }

        /** The mean of those samples of a block that the layer is of; NONE if there are none. */
        private int meanOfBlock(int stripe, int layer, int column, int row) {
            int scale = layers.scaleOf(layer);
            int top = layers.topOf(stripe) + row * scale;
            int bottom = Math.min(top + scale, layers.bottomOf(stripe));
            int left = column * scale;
            int right = Math.min(left + scale, layers.width);
            int many = 0;
            int red = 0;
            int green = 0;
            int blue = 0;
            for (int y = top; y < bottom; y++) {
                for (int x = left; x < right; x++) {
                    int place = y * layers.width + x;
                    if (isMasked(place) == (layer == FORE)) {
                        int colour = colourAt(place);
                        many++;
                        red += red(colour);
                        green += green(colour);
                        blue += blue(colour);
                    }
                }
            }
            return many == 0 ? NONE : colourOf(mean(red, many), mean(green, many), mean(blue, many));
        }

        private void fillBlocks(int stripe, int layer, int first) {
            int rows = layers.rowsOf(stripe, layer);
            int columns = layers.columnsOf(layer);
            int place = layers.startOf(stripe);
            for (int row = 0; row < rows; row++) {
                for (int column = 0; column < columns; column++) {
                    if (layers.value(layer, place) == NONE && holds(bare, place)) {
                        int left = column > 0 ? layers.value(layer, place - 1) : NONE;
                        int above = row > 0 ? layers.value(layer, place - columns) : NONE;
                        layers.set(layer, place, fillBetween(left, above, first));
                        bare[place] |= 1 << layer;
                    }
                    place++;
                }
            }
        }

        private static int fillBetween(int left, int above, int first) {
            if (left == NONE && above == NONE) {
                return first;
            }
            if (left == NONE) {
                return above;
            }
            return above == NONE ? left : middle(left, above);
        }

        /** Makes a stripe's REST: whether it is needed. */
        private boolean makeRest(int stripe) {
            boolean needed = false;
            int place = layers.startOf(stripe);
            int bottom = layers.bottomOf(stripe);
            for (int y = layers.topOf(stripe); y < bottom; y++) {
                for (int x = 0; x < layers.width; x++) {
                    int layer = isMasked(place) ? FORE : BACK;
                    int joined = layers.value(layer, layers.placeOf(layer, x, y));
                    int rest = difference(colourAt(place), joined);
                    layers.set(REST, place, rest);
                    needed = needed || rest != 0;
                    place++;
                }
            }
            return needed;
        }
    }

    /** Bytes one behind another; the row grows as they come, since most objects hold few. */
    private static final class ByteRow {
        private int[] row = new int[0];
        private int count;

        void empty() {
            count = 0;
        }

        int room() {
            return MOST_BYTES - count;
        }

        boolean holds(int i) {
            return i >= 0 && i < count;
        }

        int valueAt(int i) {
            return holds(i) ? row[i] : NONE;
        }

        void append(int b) {
            if (room() < 1) {
                return;
            }
            if (count == row.length) {
                row = Arrays.copyOf(row, Math.min(MOST_BYTES, 2 * count + 64));
            }
            row[count] = b;
            count++;
        }

        /** A byte becomes another one: what it was. */
        int replace(int i, int b) {
            int before = valueAt(i);
            if (holds(i)) {
                row[i] = b;
            }
            return before;
        }
    }

    /** Writes layers as bytes. */
    private static final class Writer {
        private final Layers layers;
        private final ByteRow bytes;

        Writer(Layers layers, ByteRow bytes) {
            this.layers = layers;
            this.bytes = bytes;
        }

        int writeAll() {
            bytes.empty();
            writeHead();
            for (int stripe = 0; stripe < layers.stripes(); stripe++) {
                for (int layer = BACK; layer <= REST; layer++) {
                    if (layers.has(stripe, layer)) {
                        writeLayer(stripe, layer);
                    }
                }
                bytes.append(END_MARK);
            }
            return bytes.count;
        }

        private void writeHead() {
            bytes.append(FIRST_LETTER);
            bytes.append(SECOND_LETTER);
            bytes.append(layers.width);
            bytes.append(layers.height);
            bytes.append(layers.step);
            bytes.append(layers.foreScale);
            bytes.append(layers.backScale);
        }

        private void writeLayer(int stripe, int layer) {
            int start = layers.startOf(stripe);
            int end = layers.endOf(stripe, layer);
            int plain = plainBytes(layer, end - start);
            int inRuns = countRuns(layer, start, end) * (layer == MASK ? 2 : 4);
            bytes.append(FIRST_MARK + layer);
            bytes.append(inRuns < plain ? RUNS : PLAIN);
            bytes.append(Math.min(inRuns, plain) & 255);
            bytes.append(Math.min(inRuns, plain) >> 8);
            if (inRuns < plain) {
                writeRuns(layer, start, end);
            } else if (layer == MASK) {
                writeBits(start, end);
            } else {
                writeValues(layer, start, end);
            }
        }

        private int countRuns(int layer, int start, int end) {
            int runs = 0;
            int length = 0;
            for (int i = start; i < end; i++) {
                length++;
                if (runEnds(layer, i, end, length)) {
                    runs++;
                    length = 0;
                }
            }
            return runs;
        }

        /** Whether a run that is this long at value i can't go on. */
        private boolean runEnds(int layer, int i, int end, int length) {
            return i + 1 >= end || length >= LONGEST_RUN || layers.value(layer, i + 1) != layers.value(layer, i);
        }

        private void writeRuns(int layer, int start, int end) {
            int length = 0;
            for (int i = start; i < end; i++) {
                length++;
                if (runEnds(layer, i, end, length)) {
                    bytes.append(length);
                    writeValue(layer, layers.value(layer, i));
                    length = 0;
                }
            }
        }

        private void writeBits(int start, int end) {
            for (int i = start; i < end; i += 8) {
                int bits = 0;
                for (int k = i; k < i + 8; k++) {
                    bits = bits << 1 | (k < end ? layers.value(MASK, k) : 0);
                }
                bytes.append(bits);
            }
        }

        private void writeValues(int layer, int start, int end) {
            for (int i = start; i < end; i++) {
                writeValue(layer, layers.value(layer, i));
            }
        }

        private void writeValue(int layer, int value) {
            if (layer != MASK) {
                bytes.append(red(value));
                bytes.append(green(value));
            }
            bytes.append(blue(value));
        }
    }

    /** Reads layers from bytes. Its methods that answer a boolean say false once it is REFUSED. */
    private static final class Reader {
        private final ByteRow bytes;
        private final Layers layers;
        private final int[] head;
        private int place;
        private int refusedAt;

        Reader(ByteRow bytes, Layers layers) {
            this.bytes = bytes;
            this.layers = layers;
            head = new int[HEAD_LEAST.length];
        }

        int readAll() {
            place = 0;
            layers.forget();
            boolean fine = readHead();
            for (int stripe = 0; fine && stripe < layers.stripes(); stripe++) {
                fine = readStripe(stripe);
            }
            if (fine && place < bytes.count) {
                fine = refuse(place);
            }
            if (fine) {
                return layers.count;
            }
            layers.forget();
            return -1 - refusedAt;
        }

        private boolean refuse(int at) {
            refusedAt = at;
            return false;
        }

        /** The next byte; NONE if it is not in these bounds or lacks, and it is REFUSED there. */
        private int take(int least, int most) {
            int b = place < bytes.count ? bytes.row[place] : NONE;
            if (b < least || b > most) {
                refusedAt = place;
                return NONE;
            }
            place++;
            return b;
        }

        private boolean readHead() {
            for (int i = 0; i < head.length; i++) {
                head[i] = take(HEAD_LEAST[i], HEAD_MOST[i]);
                if (head[i] == NONE) {
                    return false;
                }
            }
            layers.shape(head[2], head[3], head[4], head[5], head[6]);
            return true;
        }

        private boolean readStripe(int stripe) {
            int before = NONE;
            // Marks must rise, so that no more than four layers can stand before the end.
            for (int k = BACK; k <= REST + 1; k++) {
                int markAt = place;
                int mark = take(FIRST_MARK, END_MARK);
                if (mark == NONE) {
                    return false;
                }
                int layer = mark - FIRST_MARK;
                if (mark == END_MARK) {
                    return mayEnd(stripe) || refuse(markAt);
                }
                if (layer <= before || !mayFollow(stripe, layer)) {
                    return refuse(markAt);
                }
                if (!readLayer(stripe, layer)) {
                    return false;
                }
                before = layer;
            }
            return refuse(place);
        }

        private boolean mayEnd(int stripe) {
            return layers.has(stripe, FORE) || layers.has(stripe, BACK) && !layers.has(stripe, MASK);
        }

        private boolean mayFollow(int stripe, int layer) {
            if (layer == FORE) {
                return layers.has(stripe, MASK);
            }
            if (layer == REST) {
                return layers.has(stripe, BACK) || layers.has(stripe, FORE);
            }
            return layer == BACK || layer == MASK;
        }

        private boolean readLayer(int stripe, int layer) {
            int start = layers.startOf(stripe);
            int end = layers.endOf(stripe, layer);
            int kind = take(PLAIN, RUNS);
            int numberAt = place;
            int low = kind == NONE ? NONE : take(0, LARGEST_BYTE);
            int high = low == NONE ? NONE : take(0, LARGEST_BYTE);
            if (high == NONE) {
                return false;
            }
            int number = high << 8 | low;
            if (kind == PLAIN && number != plainBytes(layer, end - start)) {
                return refuse(numberAt);
            }
            boolean fine = kind == RUNS ? readRuns(layer, start, end)
                : layer == MASK ? readBits(start, end)
                : readColours(layer, start, end);
            if (!fine) {
                return false;
            }
            if (place - numberAt - 2 != number) {
                return refuse(numberAt);
            }
            layers.add(stripe, layer);
            return true;
        }

        private boolean readRuns(int layer, int start, int end) {
            int left = 0;
            int value = NONE;
            for (int i = start; i < end; i++) {
                if (left == 0) {
                    left = take(1, Math.min(LONGEST_RUN, end - i));
                    value = left == NONE ? NONE : takeValue(layer);
                    if (value == NONE) {
                        return false;
                    }
                }
                layers.set(layer, i, value);
                left--;
            }
            return true;
        }

        private boolean readBits(int start, int end) {
            for (int i = start; i < end; i += 8) {
                int bits = take(0, LARGEST_BYTE);
                if (bits == NONE) {
                    return false;
                }
                for (int k = 0; k < 8; k++) {
                    int bit = bits >> 7 - k & 1;
                    if (i + k < end) {
                        layers.set(MASK, i + k, bit);
                    } else if (bit == 1) {
                        return refuse(place - 1);
                    }
                }
            }
            return true;
        }

        private boolean readColours(int layer, int start, int end) {
            for (int i = start; i < end; i++) {
                int value = takeValue(layer);
                if (value == NONE) {
                    return false;
                }
                layers.set(layer, i, value);
            }
            return true;
        }

        /** A sample's mask or a colour; NONE if it is REFUSED. */
        private int takeValue(int layer) {
            if (layer == MASK) {
                return take(0, 1);
            }
            int red = take(0, LARGEST_BYTE);
            int green = red == NONE ? NONE : take(0, LARGEST_BYTE);
            int blue = green == NONE ? NONE : take(0, LARGEST_BYTE);
            return blue == NONE ? NONE : colourOf(red, green, blue);
        }
    }
}
