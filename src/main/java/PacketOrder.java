import java.util.ArrayList;
import java.util.Arrays;
import java.util.NoSuchElementException;

/**
 * In which order the packets of a tile come: by layers, levels, places or components, and with
 * changes of the order on the way, each packet once.
 */
public final class PacketOrder {
    private static final int MOST_EDGE = 32767;
    private static final int MOST_STEP = 255;
    private static final int MOST_COMPONENTS = 16;
    private static final int MOST_LEVEL = 32;
    private static final int MOST_EXPONENT = 15;
    private static final int MOST_LAYERS = 255;
    private static final int MOST_ORDER = 4;
    private static final int MOST_CHANGES = 32;
    private static final int MOST_PRECINCTS = 4096;

    // How many bits each of these needs at most, so that several fit into one number to sort by.
    private static final int EDGE_BITS = 15;
    private static final int PLACE_BITS = 2 * EDGE_BITS;
    private static final int COMPONENT_BITS = 4;
    private static final int LEVEL_BITS = 6;
    private static final int PRECINCT_BITS = 12;

    private static final int NONE = -1;

    private int x0;
    private int y0;
    private int x1;
    private int y1;
    private boolean hasTile;
    private final ArrayList<Component> components = new ArrayList<>();
    private int layerCount;
    // The tile's own order as a change that leaves nothing out.
    private Change own;
    private final ArrayList<Change> changes = new ArrayList<>();

    private boolean hasSequence;
    private int changeNow;
    private int changeOfLast;
    private final Row row = new Row();

    public PacketOrder() {
        layerCount = 1;
        own = new Change(0, MOST_LEVEL + 1, 0, MOST_COMPONENTS, MOST_LAYERS, 0);
    }

    public void tile(int x0, int y0, int x1, int y1) throws IllegalArgumentException {
        if (x0 < 0 || y0 < 0 || x1 > MOST_EDGE || y1 > MOST_EDGE) {
            throw new IllegalArgumentException("the tile is not within 0 .. 32767");
        }
        if (x0 >= x1 || y0 >= y1) {
            throw new IllegalArgumentException("the tile is empty");
        }
        this.x0 = x0;
        this.y0 = y0;
        this.x1 = x1;
        this.y1 = y1;
        hasTile = true;
        hasSequence = false;
    }

    public int component(int dx, int dy, int n) throws IllegalArgumentException, IllegalStateException {
        if (!isWithin(dx, 1, MOST_STEP) || !isWithin(dy, 1, MOST_STEP)) {
            throw new IllegalArgumentException("a step is not 1 .. 255");
        }
        if (!isWithin(n, 0, MOST_LEVEL)) {
            throw new IllegalArgumentException("the levels are not 0 .. 32");
        }
        int number = components.size();
        if (number >= MOST_COMPONENTS) {
            throw new IllegalStateException("there are 16 components");
        }
        components.add(new Component(number, dx, dy, n));
        hasSequence = false;
        return number;
    }

    public void precincts(int c, int r, int pw, int ph) throws NoSuchElementException, IllegalArgumentException {
        Level level = levelOf(c, r);
        if (level == null) {
            throw new NoSuchElementException("no such level of a component");
        }
        int least = r > 0 ? 1 : 0;
        if (!isWithin(pw, least, MOST_EXPONENT) || !isWithin(ph, least, MOST_EXPONENT)) {
            throw new IllegalArgumentException("an exponent is not 0 .. 15, or 0 above level 0");
        }
        level.across.exponent = pw;
        level.down.exponent = ph;
        hasSequence = false;
    }

    public void layers(int n, int order) throws IllegalArgumentException {
        if (!isWithin(n, 1, MOST_LAYERS)) {
            throw new IllegalArgumentException("the layers are not 1 .. 255");
        }
        if (!isWithin(order, 0, MOST_ORDER)) {
            throw new IllegalArgumentException("no such order");
        }
        layerCount = n;
        own = new Change(0, MOST_LEVEL + 1, 0, MOST_COMPONENTS, MOST_LAYERS, order);
        hasSequence = false;
    }

    public int change(int level, int levelEnd, int component, int componentEnd, int layerEnd, int order)
            throws IllegalArgumentException, IllegalStateException {
        if (level < 0 || level >= levelEnd || levelEnd > MOST_LEVEL + 1) {
            throw new IllegalArgumentException("no such levels");
        }
        if (component < 0 || component >= componentEnd || componentEnd > MOST_COMPONENTS) {
            throw new IllegalArgumentException("no such components");
        }
        if (!isWithin(layerEnd, 1, MOST_LAYERS)) {
            throw new IllegalArgumentException("no such layers");
        }
        if (!isWithin(order, 0, MOST_ORDER)) {
            throw new IllegalArgumentException("no such order");
        }
        if (changes.size() >= MOST_CHANGES) {
            throw new IllegalStateException("there are 32 changes");
        }
        changes.add(new Change(level, levelEnd, component, componentEnd, layerEnd, order));
        hasSequence = false;
        return changes.size();
    }

    public void clear() {
        changes.clear();
        hasSequence = false;
    }

    public int begin() throws IllegalStateException, UnsupportedOperationException {
        if (!hasTile || components.isEmpty()) {
            throw new IllegalStateException("there is no tile, or no component");
        }
        long total = measureLevels();
        if (total > MOST_PRECINCTS) {
            throw new UnsupportedOperationException("there are more than 4096 precincts");
        }
        row.restart((int) total);
        changeNow = NONE;
        changeOfLast = NONE;
        hasSequence = true;
        return (int) total * layerCount;
    }

    public boolean next() throws IllegalStateException {
        if (!hasSequence) {
            throw new IllegalStateException("there is no sequence");
        }
        return takePackets(1) == 1;
    }

    public int skip(int n) throws IllegalArgumentException, IllegalStateException {
        if (n < 0) {
            throw new IllegalArgumentException("the number of packets is below 0");
        }
        if (!hasSequence) {
            throw new IllegalStateException("there is no sequence");
        }
        return takePackets(n);
    }

    public int packet(int what) throws NoSuchElementException {
        Level level = hasSequence ? levelWith(row.last) : null;
        if (level == null) {
            throw new NoSuchElementException("there is no sequence, or no packet came");
        }
        switch (what) {
            case 0:
                return row.comeOf(row.last) - 1;
            case 1:
                return level.number;
            case 2:
                return level.owner;
            case 3:
                return row.last - level.firstPrecinct;
            case 4:
                return changeOfLast;
            default:
                throw new NoSuchElementException("a packet has no such number");
        }
    }

    public int came(int c, int r, int p) throws NoSuchElementException {
        Level level = hasSequence ? levelOf(c, r) : null;
        if (level == null || p < 0 || p >= level.precinctCount()) {
            throw new NoSuchElementException("there is no sequence, or no such precinct");
        }
        return row.comeOf(level.firstPrecinct + p);
    }

    private static boolean isWithin(int value, int least, int most) {
        return value >= least && value <= most;
    }

    /** Null if there is no such level. */
    private Level levelOf(int c, int r) {
        if (c < 0 || c >= components.size()) {
            return null;
        }
        Level[] levels = components.get(c).levels;
        return r < 0 || r >= levels.length ? null : levels[r];
    }

    /** The level which that precinct of the whole tile is in; null if there is no such precinct. */
    private Level levelWith(int precinct) {
        for (int r = 0; r <= MOST_LEVEL; r++) {
            for (int c = 0; c < components.size(); c++) {
                Level level = levelOf(c, r);
                if (level != null && level.holds(precinct)) {
                    return level;
                }
            }
        }
        return null;
    }

    /**
     * Numbers the precincts of the whole tile by level, component and precinct, as the orders 0
     * and 1 have them within a layer, and answers how many there are.
     */
    private long measureLevels() {
        long total = 0;
        for (int r = 0; r <= MOST_LEVEL; r++) {
            for (int c = 0; c < components.size(); c++) {
                Level level = levelOf(c, r);
                if (level != null) {
                    level.across.measure(x0, x1);
                    level.down.measure(y0, y1);
                    level.firstPrecinct = (int) Math.min(total, MOST_PRECINCTS);
                    total += level.precinctCount();
                }
            }
        }
        return total;
    }

    private int takePackets(int n) {
        int left = n - row.take(n);
        int changeCount = Math.max(changes.size(), 1);
        while (left > 0 && changeNow + 1 < changeCount) {
            changeNow++;
            fillRow(changes.isEmpty() ? own : changes.get(changeNow));
            // A change that has nothing left must not count as the last packet's one.
            if (row.size > 0) {
                changeOfLast = changeNow;
            }
            left -= row.take(left);
        }
        return n - left;
    }

    private void fillRow(Change change) {
        row.empty(Math.min(change.layerEnd, layerCount));
        int componentEnd = Math.min(change.componentEnd, components.size());
        for (int r = change.firstLevel; r < change.levelEnd; r++) {
            for (int c = change.firstComponent; c < componentEnd; c++) {
                Level level = levelOf(c, r);
                // A level that is empty in one direction may have many rows to go through for nothing.
                if (level != null && level.precinctCount() > 0) {
                    enlist(level, change.order);
                }
            }
        }
        row.arrange();
    }

    private void enlist(Level level, int order) {
        int precinct = level.firstPrecinct;
        for (int j = 0; j < level.down.count; j++) {
            long y = level.down.place(j);
            for (int i = 0; i < level.across.count; i++) {
                row.add(level.rank(order, y << EDGE_BITS | level.across.place(i)), precinct);
                precinct++;
            }
        }
    }

    private static final class Change {
        private final int firstLevel;
        private final int levelEnd;
        private final int firstComponent;
        private final int componentEnd;
        private final int layerEnd;
        private final int order;

        Change(int firstLevel, int levelEnd, int firstComponent, int componentEnd, int layerEnd, int order) {
            this.firstLevel = firstLevel;
            this.levelEnd = levelEnd;
            this.firstComponent = firstComponent;
            this.componentEnd = componentEnd;
            this.layerEnd = layerEnd;
            this.order = order;
        }
    }

    private static final class Component {
        private final Level[] levels;

        Component(int number, int dx, int dy, int n) {
            levels = new Level[n + 1];
            for (int r = 0; r <= n; r++) {
                levels[r] = new Level(number, r, new Span(dx, n - r), new Span(dy, n - r));
            }
        }
    }

    private static final class Level {
        private final int owner;
        private final int number;
        private final Span across;
        private final Span down;
        private int firstPrecinct;

        Level(int owner, int number, Span across, Span down) {
            this.owner = owner;
            this.number = number;
            this.across = across;
            this.down = down;
        }

        int precinctCount() {
            return across.count * down.count;
        }

        boolean holds(int precinct) {
            return precinct >= firstPrecinct && precinct - firstPrecinct < precinctCount();
        }

        /** All that an order looks at ahead of the layer, as one number. */
        long rank(int order, long place) {
            long c = owner;
            long r = number;
            switch (order) {
                case 1:
                    return r;
                case 2:
                    return (r << PLACE_BITS | place) << COMPONENT_BITS | c;
                case 3:
                    return (place << COMPONENT_BITS | c) << LEVEL_BITS | r;
                case 4:
                    return (c << PLACE_BITS | place) << LEVEL_BITS | r;
                default:
                    return 0;
            }
        }
    }

    /** The columns, or the rows, of a level's precincts: both directions are measured alike. */
    private static final class Span {
        private final int step;
        private final int halvings;
        private int exponent = MOST_EXPONENT;
        private int tileStart;
        private int first;
        private int count;

        Span(int step, int halvings) {
            this.step = Math.max(step, 1);
            this.halvings = halvings;
        }

        void measure(int start, int end) {
            long levelStart = onLevel(start);
            long levelEnd = onLevel(end);
            tileStart = start;
            first = (int) (levelStart >> exponent);
            count = levelStart < levelEnd ? (int) (levelEnd - 1 >> exponent) - first + 1 : 0;
        }

        private long onLevel(int edge) {
            // Long, because 2 to the 32 is a divisor too.
            long part = (edge + step - 1) / step;
            return part + (1L << halvings) - 1 >> halvings;
        }

        int place(int index) {
            long point = ((long) (first + index) << exponent + halvings) * step;
            return (int) Math.max(point, tileStart);
        }
    }

    /**
     * The precincts that one change still has packets of, in its order. Those of one rank make a
     * group: its packets come layer by layer, and in each layer precinct by precinct. So order 0
     * has one group, order 1 one for each level, and the others one for each precinct. As the
     * layers of a precinct always come in turn, how many came tells which one is next.
     */
    private static final class Row {
        private int[] layersCome = new int[0];
        private long[] keys = new long[0];
        private long[] spare = new long[0];
        private int size;
        private int layerEnd;
        private int groupStart;
        private int groupEnd;
        private int layer;
        private int at;
        private int last = NONE;

        void restart(int precincts) {
            // Made once and at the full length, so that further sequences need no more room.
            if (precincts > layersCome.length) {
                layersCome = new int[MOST_PRECINCTS];
                keys = new long[MOST_PRECINCTS];
                spare = new long[MOST_PRECINCTS];
            } else {
                Arrays.fill(layersCome, 0);
            }
            last = NONE;
            empty(0);
            openGroup(0);
        }

        void empty(int layerEnd) {
            this.layerEnd = layerEnd;
            size = 0;
        }

        int comeOf(int precinct) {
            return precinct >= 0 && precinct < layersCome.length ? layersCome[precinct] : 0;
        }

        void add(long rank, int precinct) {
            if (size < keys.length && comeOf(precinct) < layerEnd) {
                keys[size] = rank << PRECINCT_BITS | precinct;
                size++;
            }
        }

        void arrange() {
            sort();
            openGroup(0);
        }

        int take(int n) {
            int left = n - takeOfGroup(n);
            // No group is empty, so there are no more of them than precincts.
            for (int group = 1; group < size && left > 0 && groupEnd < size; group++) {
                openGroup(groupEnd);
                left -= takeOfGroup(left);
            }
            return n - left;
        }

        private int precinctAt(int position) {
            return (int) (keys[position] & MOST_PRECINCTS - 1);
        }

        private void openGroup(int start) {
            groupStart = start;
            at = start;
            layer = layerEnd;
            groupEnd = start;
            while (groupEnd < size && keys[groupEnd] >> PRECINCT_BITS == keys[start] >> PRECINCT_BITS) {
                layer = Math.min(layer, layersCome[precinctAt(groupEnd)]);
                groupEnd++;
            }
        }

        /** Fewer than n only if the group has no more. */
        private int takeOfGroup(int n) {
            int left = n;
            for (; left > 0 && layer < layerEnd; layer++) {
                if (at == groupStart && left > groupEnd - groupStart) {
                    left -= takeWholeLayers(left);
                }
                left -= takeOfLayer(left);
                if (at < groupEnd) {
                    // Enough within this layer: the next call goes on from here.
                    break;
                }
                at = groupStart;
            }
            return n - left;
        }

        /** Fewer than n only if it went to the group's end. */
        private int takeOfLayer(int n) {
            int taken = 0;
            while (taken < n && at < groupEnd) {
                int precinct = precinctAt(at);
                if (layersCome[precinct] == layer) {
                    layersCome[precinct]++;
                    last = precinct;
                    taken++;
                }
                at++;
            }
            return taken;
        }

        /**
         * Takes the layers before the one that the group's nth packet is in, if that is in the
         * group, and otherwise those before the last one: one by one could be a million packets.
         */
        private int takeWholeLayers(int n) {
            int low = layer;
            int high = layerEnd - 1;
            while (low < high) {
                int middle = low + (high - low + 1) / 2;
                if (packetsBefore(middle) < n) {
                    low = middle;
                } else {
                    high = middle - 1;
                }
            }
            int taken = packetsBefore(low);
            for (int i = groupStart; i < groupEnd; i++) {
                int precinct = precinctAt(i);
                layersCome[precinct] = Math.max(layersCome[precinct], low);
            }
            layer = low;
            return taken;
        }

        private int packetsBefore(int end) {
            int packets = 0;
            for (int i = groupStart; i < groupEnd; i++) {
                packets += Math.max(end - layersCome[precinctAt(i)], 0);
            }
            return packets;
        }

        private void sort() {
            for (int width = 1; width < size; width *= 2) {
                for (int start = 0; start + width < size; start += 2 * width) {
                    int middle = start + width;
                    if (keys[middle - 1] > keys[middle]) {
                        merge(start, middle, Math.min(middle + width, size));
                    }
                }
            }
        }

        private void merge(int start, int middle, int end) {
            System.arraycopy(keys, start, spare, start, middle - start);
            int left = start;
            int right = middle;
            for (int to = start; left < middle && to < end; to++) {
                if (right < end && keys[right] < spare[left]) {
                    keys[to] = keys[right];
                    right++;
                } else {
                    keys[to] = spare[left];
                    left++;
                }
            }
        }
    }
}
