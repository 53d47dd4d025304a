import java.util.Set;
import java.util.TreeSet;

/**
 * The sentences of 'What it is' and 'Terms' that name a boundary case, each with a test of its own.
 * (Those of the last paragraph of 'Terms' are in RefusalTest.)
 */
public final class TermsTest extends Checks {
    public static void main(String[] args) {
        sentence("An object is used for at most 512 calls after it has been made", TermsTest::the512thCall);
        sentence("512 calls, with all there is", TermsTest::callsWithAllThereIs);
        sentence("DIVIDING upwards is to the next whole number not below", TermsTest::dividing);
        sentence("A TILE is a rectangle of a grid's points: x0 <= x < x1, y0 <= y < y1", TermsTest::pointsOfATile);
        sentence("COMPONENTS 0, 1, .. have a STEP in each direction", TermsTest::steps);
        sentence("LEVELS 0 .. N", TermsTest::levelsOfAComponent);
        sentence("for each level two exponents", TermsTest::exponentsOfALevel);
        sentence("its level r is the part divided by 2 to the N - r upwards", TermsTest::halvings);
        sentence("squares of the plane from (0, 0) on, 2^pw wide and 2^ph high, from that column (row) which the"
                + " level's x0 (y0) is in to that which its x1 - 1 (y1 - 1) is in", TermsTest::columnsAndRows);
        sentence("numbered from 0 row by row", TermsTest::numbersOfPrecincts);
        sentence("none if the level is empty", TermsTest::emptyLevels);
        sentence("the point of the grid x = i * 2^pw * 2^(N - r) * dx, and y likewise", TermsTest::places);
        sentence("but not below the tile's x0, and y likewise", TermsTest::placesAtTheTilesEdge);
        sentence("There are LAYERS 0 .. L - 1", TermsTest::layers);
        sentence("there is one for each layer and each precinct of each level of each component",
                TermsTest::eachPacket);
        sentence("An ORDER is by several of these, the first one that is not alike (always the lesser one first)",
                TermsTest::orders);
        sentence("CHANGES are a row, at most 32", TermsTest::rowOfChanges);
        sentence("levels from one to before another one", TermsTest::levelsOfAChange);
        sentence("components from one to before another one", TermsTest::componentsOfAChange);
        sentence("layers to before one", TermsTest::layersOfAChange);
        sentence("and an order", TermsTest::orderOfAChange);
        sentence("The packets come change by change", TermsTest::changeByChange);
        sentence("those that did not come before", TermsTest::notBefore);
        sentence("Without any change all packets come in the tile's own order", TermsTest::withoutChanges);
        end();
    }

    /** Along x, or along y if down: the other direction has a single point. */
    private static PacketOrder line(boolean down, int start, int end) {
        PacketOrder x = new PacketOrder();
        if (down) {
            x.tile(0, start, 1, end);
        } else {
            x.tile(start, 0, end, 1);
        }
        return x;
    }

    private static void component(PacketOrder x, boolean down, int step, int n) {
        x.component(down ? 1 : step, down ? step : 1, n);
    }

    private static void exponent(PacketOrder x, boolean down, int c, int r, int e) {
        x.precincts(c, r, down ? 15 : e, down ? e : 15);
    }

    private static String direction(boolean down) {
        return down ? " down" : " across";
    }

    private static void the512thCall() {
        PacketOrder x = new PacketOrder();
        x.tile(0, 0, 64, 64);
        x.component(1, 1, 0);
        x.precincts(0, 0, 0, 0);
        x.begin();
        for (int call = 5; call <= 511; call++) {
            due("call " + call, true, x::next);
        }
        due("call 512", 506, () -> x.packet(3));
    }

    private static void callsWithAllThereIs() {
        PacketOrder x = new PacketOrder();
        x.tile(0, 0, 64, 64);
        x.layers(255, 4);
        for (int c = 0; c < 16; c++) {
            x.component(2, 2, 2);
        }
        for (int c = 0; c < 15; c++) {
            x.precincts(c, 2, 1, 1);
        }
        for (int i = 0; i < 32; i++) {
            x.change(0, 33, 0, 16, 8 * i + 7, i % 5);
        }
        int packets = (15 * (1 + 1 + 16 * 16) + 3) * 255;
        for (int call = 66; call <= 70; call += 2) {
            due("call " + call, packets, x::begin);
            due("call " + (call + 1), packets, () -> x.skip(MOST));
        }
        x.begin();
        for (int call = 73; call <= 511; call++) {
            due("call " + call, 1000, () -> x.skip(1000));
        }
        // 439000 packets are 113 layers of 3873 precincts and a part of one more: change 14 goes to before 119.
        due("call 512", 14, () -> x.packet(4));
    }

    /** Each row: from, to before, step, halvings, points. The points are those of level 0. */
    private static void dividing() {
        int[][] table = {
            {0, 1, 4, 0, 1}, {0, 3, 4, 0, 1}, {0, 4, 4, 0, 1}, {0, 5, 4, 0, 2}, {0, 7, 4, 0, 2}, {0, 8, 4, 0, 2},
            {0, 9, 4, 0, 3}, {1, 9, 4, 0, 2}, {3, 9, 4, 0, 2}, {4, 9, 4, 0, 2}, {5, 9, 4, 0, 1}, {8, 9, 4, 0, 1},
            {0, 1, 1, 2, 1}, {0, 3, 1, 2, 1}, {0, 4, 1, 2, 1}, {0, 5, 1, 2, 2}, {0, 7, 1, 2, 2}, {0, 8, 1, 2, 2},
            {0, 9, 1, 2, 3}, {1, 9, 1, 2, 2}, {3, 9, 1, 2, 2}, {4, 9, 1, 2, 2}, {5, 9, 1, 2, 1}, {8, 9, 1, 2, 1},
            {0, 24, 3, 3, 1}, {0, 25, 3, 3, 2}, {23, 25, 3, 3, 1}, {24, 25, 3, 3, 1}, {25, 48, 3, 3, 0},
            {0, 255, 255, 0, 1}, {0, 256, 255, 0, 2}, {0, 32640, 255, 0, 128}, {0, 32641, 255, 0, 129},
            {0, 32767, 255, 0, 129}, {0, 20, 1, 0, 20}, {19, 20, 1, 0, 1},
        };
        for (int[] row : table) {
            for (boolean down : new boolean[] {false, true}) {
                PacketOrder x = line(down, row[0], row[1]);
                component(x, down, row[2], row[3]);
                exponent(x, down, 0, 0, 0);
                due(row[0] + " .. " + row[1] + " by " + row[2] + " and 2^" + row[3] + direction(down), row[4],
                        () -> precinctsOf(x, 0, 0));
            }
        }
    }

    private static void pointsOfATile() {
        int[][] table = {
            {0, 0, 1, 1, 1}, {3, 5, 4, 6, 1}, {3, 5, 5, 6, 2}, {3, 5, 4, 7, 2}, {3, 5, 10, 8, 21}, {0, 0, 64, 64, 4096},
            {32766, 32766, 32767, 32767, 1}, {32765, 32764, 32767, 32767, 6},
        };
        for (int[] row : table) {
            PacketOrder x = new PacketOrder();
            x.component(1, 1, 0);
            x.precincts(0, 0, 0, 0);
            x.tile(row[0], row[1], row[2], row[3]);
            due(row[0] + ", " + row[1] + " .. " + row[2] + ", " + row[3], row[4], x::begin);
        }
    }

    private static void steps() {
        PacketOrder x = new PacketOrder();
        x.tile(0, 0, 12, 12);
        x.component(3, 4, 0);
        x.component(12, 1, 0);
        x.component(1, 12, 0);
        for (int c = 0; c < 3; c++) {
            x.precincts(c, 0, 0, 15);
        }
        due("columns of 3", 4, () -> precinctsOf(x, 0, 0));
        due("columns of 12", 1, () -> precinctsOf(x, 1, 0));
        due("columns of 1", 12, () -> precinctsOf(x, 2, 0));
        for (int c = 0; c < 3; c++) {
            x.precincts(c, 0, 15, 0);
        }
        due("rows of 4", 3, () -> precinctsOf(x, 0, 0));
        due("rows of 1", 12, () -> precinctsOf(x, 1, 0));
        due("rows of 12", 1, () -> precinctsOf(x, 2, 0));
    }

    private static void levelsOfAComponent() {
        PacketOrder x = new PacketOrder();
        x.tile(0, 0, 8, 8);
        int[] most = {0, 1, 5, 31, 32};
        for (int n : most) {
            x.component(1, 1, n);
        }
        due("all levels", 1 + 2 + 6 + 32 + 33, x::begin);
        for (int c = 0; c < most.length; c++) {
            int number = c;
            int n = most[c];
            due("level 0 of " + n, 0, () -> x.came(number, 0, 0));
            due("the last level of " + n, 0, () -> x.came(number, n, 0));
            due("one more than " + n, ELEMENT, () -> x.came(number, n + 1, 0));
        }
    }

    private static void exponentsOfALevel() {
        PacketOrder x = new PacketOrder();
        x.tile(0, 0, 16, 16);
        x.component(1, 1, 1);
        x.component(1, 1, 1);
        x.precincts(1, 0, 0, 15);
        x.precincts(1, 1, 15, 3);
        due("level 0 of 0", 1, () -> precinctsOf(x, 0, 0));
        due("level 1 of 0", 1, () -> precinctsOf(x, 0, 1));
        due("level 0 of 1", 8, () -> precinctsOf(x, 1, 0));
        due("level 1 of 1", 2, () -> precinctsOf(x, 1, 1));
        x.precincts(0, 1, 3, 2);
        x.precincts(1, 0, 2, 2);
        due("level 0 of 0 still", 1, () -> precinctsOf(x, 0, 0));
        due("level 1 of 0 now", 2 * 4, () -> precinctsOf(x, 0, 1));
        due("level 0 of 1 now", 2 * 2, () -> precinctsOf(x, 1, 0));
        due("level 1 of 1 still", 2, () -> precinctsOf(x, 1, 1));
    }

    /** From 1 on a level is empty where 2 to the N - r is more than the tile's last point. */
    private static void halvings() {
        for (boolean down : new boolean[] {false, true}) {
            PacketOrder whole = line(down, 0, 32767);
            component(whole, down, 1, 32);
            due("all levels from 0 on" + direction(down), 33, whole::begin);
            PacketOrder cut = line(down, 1, 32767);
            component(cut, down, 1, 32);
            due("those that are not empty" + direction(down), 15, cut::begin);
            due("level 0" + direction(down), ELEMENT, () -> cut.came(0, 0, 0));
            due("2^15" + direction(down), ELEMENT, () -> cut.came(0, 17, 0));
            due("2^14" + direction(down), 0, () -> cut.came(0, 18, 0));
            due("the part itself" + direction(down), 0, () -> cut.came(0, 32, 0));
            PacketOrder each = line(down, 0, 17);
            component(each, down, 1, 4);
            for (int r = 1; r <= 4; r++) {
                exponent(each, down, 0, r, 1);
            }
            exponent(each, down, 0, 0, 0);
            due("2^4, two points" + direction(down), 2, () -> precinctsOf(each, 0, 0));
            due("2^3, three points" + direction(down), 2, () -> precinctsOf(each, 0, 1));
            due("2^2, five points" + direction(down), 3, () -> precinctsOf(each, 0, 2));
            due("2^1, nine points" + direction(down), 5, () -> precinctsOf(each, 0, 3));
            due("2^0, all points" + direction(down), 9, () -> precinctsOf(each, 0, 4));
        }
    }

    /** Each row: from, to before, exponent, columns. */
    private static void columnsAndRows() {
        int[][] table = {
            {0, 8, 3, 1}, {0, 9, 3, 2}, {1, 8, 3, 1}, {7, 8, 3, 1}, {7, 9, 3, 2}, {8, 9, 3, 1}, {8, 16, 3, 1},
            {8, 17, 3, 2}, {7, 16, 3, 2}, {7, 17, 3, 3}, {15, 17, 3, 2}, {16, 17, 3, 1}, {0, 1, 0, 1}, {5, 7, 0, 2},
            {0, 2, 1, 1}, {1, 3, 1, 2}, {0, 32767, 15, 1}, {0, 32767, 14, 2}, {0, 16384, 14, 1}, {0, 16385, 14, 2},
            {16383, 16384, 14, 1}, {16383, 16385, 14, 2}, {16384, 16385, 14, 1}, {32766, 32767, 15, 1},
        };
        for (int[] row : table) {
            for (boolean down : new boolean[] {false, true}) {
                PacketOrder x = line(down, row[0], row[1]);
                component(x, down, 1, 0);
                exponent(x, down, 0, 0, row[2]);
                due(row[0] + " .. " + row[1] + " in squares of 2^" + row[2] + direction(down), row[3], x::begin);
            }
        }
        PacketOrder x = new PacketOrder();
        x.tile(7, 3, 25, 10);
        x.component(1, 1, 0);
        x.precincts(0, 0, 3, 2);
        due("columns and rows", 4 * 3, x::begin);
        x.component(3, 2, 1);
        x.precincts(1, 0, 0, 0);
        due("of the level, not of the tile", (5 - 2) * (3 - 1), () -> precinctsOf(x, 1, 0));
    }

    /** The second component has its precincts at the very places of the first one, so they come in pairs. */
    private static void numbersOfPrecincts() {
        PacketOrder x = new PacketOrder();
        x.tile(0, 0, 12, 8);
        x.component(1, 1, 0);
        x.component(4, 4, 0);
        x.precincts(0, 0, 2, 2);
        x.precincts(1, 0, 0, 0);
        for (int order = 2; order <= 3; order++) {
            x.layers(1, order);
            x.begin();
            due("three columns and two rows", "0 0 1 1 2 2 3 3 4 4 5 5", () -> numbers(x, 3, 20));
        }
        x.layers(1, 0);
        x.begin();
        due("by their numbers", "0 1 2 3 4 5 0 1 2 3 4 5", () -> numbers(x, 3, 20));
        due("no number below 0", ELEMENT, () -> x.came(0, 0, -1));
        due("the last number", 1, () -> x.came(0, 0, 5));
        due("no more numbers", ELEMENT, () -> x.came(0, 0, 6));
        x.tile(4, 4, 12, 8);
        x.begin();
        due("from 0 on in a tile that begins elsewhere", "0 1 0 1", () -> numbers(x, 3, 20));
    }

    /** Each row: a tile, two steps, and how many precincts there are. */
    private static void emptyLevels() {
        int[][] table = {
            {7, 0, 8, 8, 8, 1, 0}, {7, 0, 9, 8, 8, 1, 1}, {8, 0, 9, 8, 8, 1, 1}, {9, 0, 16, 8, 8, 1, 0},
            {0, 7, 8, 8, 1, 8, 0}, {0, 7, 8, 9, 1, 8, 1}, {0, 8, 8, 9, 1, 8, 1}, {0, 9, 8, 16, 1, 8, 0},
            {7, 7, 8, 8, 8, 8, 0}, {7, 7, 9, 8, 8, 8, 0}, {7, 7, 8, 9, 8, 8, 0}, {7, 7, 9, 9, 8, 8, 1},
        };
        for (int[] row : table) {
            PacketOrder x = new PacketOrder();
            x.tile(row[0], row[1], row[2], row[3]);
            x.component(row[4], row[5], 0);
            String name = row[0] + ", " + row[1] + " .. " + row[2] + ", " + row[3];
            due(name, row[6], x::begin);
            due("its first precinct: " + name, row[6] == 1 ? 0 : ELEMENT, () -> x.came(0, 0, 0));
            due("its packet: " + name, row[6] == 1, x::next);
            due("no more: " + name, false, x::next);
        }
        PacketOrder x = new PacketOrder();
        x.tile(7, 0, 8, 32767);
        x.component(8, 1, 0);
        x.precincts(0, 0, 0, 0);
        x.component(1, 1, 0);
        due("many rows without a column are nothing", 1, x::begin);
        due("the packet of the other component", "0.0.1.0", () -> packets(x, 9));
    }

    /**
     * The places of a level's precincts. Component 0 has a precinct at each point, and in order 3 it
     * comes ahead of the others that have the same place.
     */
    private static String placesOn(PacketOrder x, int start, int level) {
        StringBuilder text = new StringBuilder();
        int points = 0;
        x.begin();
        for (int i = 0; i < 120 && x.next(); i++) {
            if (x.packet(2) == 0) {
                points++;
            } else if (x.packet(1) == level) {
                text.append(text.isEmpty() ? "" : " ").append(start + points - 1);
            }
        }
        return text.toString();
    }

    private static void placesAre(String want, int start, int end, int step, int n, int r, int e) {
        for (boolean down : new boolean[] {false, true}) {
            PacketOrder x = line(down, start, end);
            component(x, down, 1, 0);
            exponent(x, down, 0, 0, 0);
            component(x, down, step, n);
            exponent(x, down, 1, r, e);
            x.layers(1, 3);
            due("from " + start + ", step " + step + ", level " + r + " of " + n + ", 2^" + e + direction(down), want,
                    () -> placesOn(x, start, r));
        }
    }

    private static void places() {
        placesAre("0 1 2", 0, 3, 1, 0, 0, 0);
        placesAre("0 8 16 24", 0, 25, 1, 0, 0, 3);
        placesAre("0 8 16", 0, 24, 1, 0, 0, 3);
        placesAre("0 3 6 9 12 15 18 21 24", 0, 25, 3, 0, 0, 0);
        placesAre("0 6 12 18 24", 0, 25, 3, 0, 0, 1);
        placesAre("0 4 8 12 16 20 24", 0, 25, 1, 1, 0, 1);
        placesAre("0 4 8 12 16 20 24", 0, 25, 1, 2, 0, 0);
        placesAre("0 12 24", 0, 25, 3, 1, 0, 1);
        placesAre("0 6 12 18 24", 0, 25, 3, 1, 1, 1);
        placesAre("0 24", 0, 25, 3, 2, 1, 2);
        placesAre("0", 0, 25, 255, 32, 0, 15);
        placesAre("32640", 32640, 32690, 255, 0, 0, 0);
        placesAre("32640", 32630, 32680, 255, 0, 0, 0);
        placesAre("16384", 16384, 16400, 1, 14, 0, 0);
        placesAre("16384", 16380, 16400, 1, 14, 0, 0);
    }

    private static void placesAtTheTilesEdge() {
        placesAre("7 8 16 24", 7, 25, 1, 0, 0, 3);
        placesAre("8 16 24", 8, 25, 1, 0, 0, 3);
        placesAre("9 16 24", 9, 25, 1, 0, 0, 3);
        placesAre("15 16 24", 15, 25, 1, 0, 0, 3);
        placesAre("16 24", 16, 25, 1, 0, 0, 3);
        placesAre("6 12 18 24", 5, 25, 3, 0, 0, 1);
        placesAre("6 12 18 24", 6, 25, 3, 0, 0, 1);
        placesAre("7 12 18 24", 7, 25, 3, 0, 0, 1);
        placesAre("9 12 18 24", 9, 25, 3, 0, 0, 1);
        placesAre("12 18 24", 10, 25, 3, 0, 0, 1);
        placesAre("32760", 32760, 32767, 1, 0, 0, 15);
        edgesAreApart();
    }

    /** Component 0: (5, 9), (8, 9), (5, 12) and (8, 12); component 1: (6, 9); component 2: (5, 10). */
    private static void edgesAreApart() {
        PacketOrder x = new PacketOrder();
        x.tile(5, 9, 11, 13);
        x.component(1, 1, 0);
        x.component(6, 1, 0);
        x.component(1, 10, 0);
        x.precincts(0, 0, 3, 2);
        x.precincts(1, 0, 0, 15);
        x.precincts(2, 0, 15, 0);
        x.layers(1, 3);
        due("precincts", 4 + 1 + 1, x::begin);
        due("each edge by itself", "0.0.0.0 0.0.1.0 0.0.0.1 0.0.2.0 0.0.0.2 0.0.0.3", () -> packets(x, 20));
    }

    private static void layers() {
        for (int n : new int[] {1, 2, 3, 254, 255}) {
            PacketOrder x = new PacketOrder();
            x.tile(0, 0, 1, 1);
            x.component(1, 1, 0);
            x.layers(n, 0);
            due("packets of " + n, n, x::begin);
            x.next();
            due("the first of " + n, 0, () -> x.packet(0));
            due("all but the last of " + n, Math.max(n - 2, 0), () -> x.skip(Math.max(n - 2, 0)));
            due("the last of " + n, n > 1, x::next);
            due("its layer of " + n, n - 1, () -> x.packet(0));
            due("no more of " + n, false, x::next);
        }
    }

    private static void eachPacket() {
        Set<String> all = new TreeSet<>();
        int[][] counts = {{0, 0, 4}, {0, 1, 4}, {1, 0, 2}, {1, 1, 2}};
        for (int[] count : counts) {
            for (int i = 0; i < 2 * count[2]; i++) {
                all.add(i % 2 + "." + count[1] + "." + count[0] + "." + i / 2);
            }
        }
        for (int order = 0; order < 5; order++) {
            PacketOrder x = manyPlaces();
            x.layers(2, order);
            due("how many", 24, x::begin);
            String came = packets(x, 30);
            due("as many", 24, () -> came.split(" ").length);
            due("each of them", all, () -> new TreeSet<>(Set.of(came.split(" "))));
        }
    }

    /**
     * Component 0 has four precincts on each of its two levels, at (0, 0), (4, 0), (0, 4) and (4, 4);
     * component 1 has two columns on level 0, at 0 and 4, and two rows on level 1, at 0 and 4.
     */
    private static PacketOrder manyPlaces() {
        PacketOrder x = new PacketOrder();
        x.tile(0, 0, 8, 8);
        x.component(1, 1, 1);
        x.component(1, 1, 1);
        x.precincts(0, 0, 1, 1);
        x.precincts(0, 1, 2, 2);
        x.precincts(1, 0, 1, 15);
        x.precincts(1, 1, 15, 2);
        return x;
    }

    private static final int LAYER = 0;
    private static final int LEVEL = 1;
    private static final int COMPONENT = 2;
    private static final int PRECINCT = 3;
    private static final int X = 4;
    private static final int Y = 5;
    private static final int[][] ORDERS = {
        {LAYER, LEVEL, COMPONENT, PRECINCT}, {LEVEL, LAYER, COMPONENT, PRECINCT}, {LEVEL, Y, X, COMPONENT, LAYER},
        {Y, X, COMPONENT, LEVEL, LAYER}, {COMPONENT, Y, X, LEVEL, LAYER},
    };

    private static int[] packetWithPlace(PacketOrder x) {
        int[] p = {x.packet(0), x.packet(1), x.packet(2), x.packet(3), 0, 0};
        boolean oneColumn = p[COMPONENT] == 1 && p[LEVEL] == 1;
        p[X] = oneColumn ? 0 : p[PRECINCT] % 2 * 4;
        p[Y] = oneColumn ? p[PRECINCT] * 4 : p[PRECINCT] / 2 * 4;
        return p;
    }

    private static boolean isBefore(int[] a, int[] b, int order) {
        for (int what : ORDERS[order]) {
            if (a[what] != b[what]) {
                return a[what] < b[what];
            }
        }
        return false;
    }

    private static void orders() {
        for (int order = 0; order < 5; order++) {
            PacketOrder own = manyPlaces();
            own.layers(2, order);
            ordersOf(own, 24, order, TermsTest::packetWithPlace);
            PacketOrder changed = manyPlaces();
            changed.layers(2, (order + 1) % 5);
            changed.change(0, 2, 0, 2, 2, order);
            ordersOf(changed, 24, order, TermsTest::packetWithPlace);
            PacketOrder far = farAway();
            far.layers(2, order);
            ordersOf(far, 58, order, TermsTest::packetFarAway);
        }
        firstOneIsNotFirst();
    }

    /**
     * Component 0 at 6; component 1 at 6 on level 0, at 5 and 6 on level 1; component 2 at 5, 6 and 7: what
     * has the least numbers need not be at the least place.
     */
    private static void firstOneIsNotFirst() {
        String[] want = {
            "0.0.2.0 0.0.0.0 0.0.1.0 0.0.2.1 0.0.2.2 0.1.1.0 0.1.1.1",
            "0.1.1.0 0.0.2.0 0.0.0.0 0.0.1.0 0.1.1.1 0.0.2.1 0.0.2.2",
            "0.0.0.0 0.1.1.0 0.0.1.0 0.1.1.1 0.0.2.0 0.0.2.1 0.0.2.2",
        };
        for (boolean down : new boolean[] {false, true}) {
            PacketOrder x = line(down, 5, 8);
            component(x, down, 6, 0);
            component(x, down, 1, 1);
            component(x, down, 1, 0);
            for (int c = 0; c < 3; c++) {
                exponent(x, down, c, 0, 0);
            }
            exponent(x, down, 1, 1, 1);
            for (int order = 2; order < 5; order++) {
                x.layers(1, order);
                x.begin();
                due("order " + order + direction(down), want[order - 2], () -> packets(x, 20));
            }
        }
    }

    private interface Reading {
        int[] of(PacketOrder x);
    }

    private static void ordersOf(PacketOrder x, int packets, int order, Reading reading) {
        due("packets in order " + order, packets, x::begin);
        due("the first", true, x::next);
        int[] last = reading.of(x);
        for (int i = 1; i < packets; i++) {
            due("one more", true, x::next);
            int[] before = last;
            int[] now = reading.of(x);
            due("order " + order + ", packet " + i, true, () -> isBefore(before, now, order));
            last = now;
        }
        due("no more", false, x::next);
    }

    /**
     * All numbers as large as can be: 3 x 3 points at the grid's far corner, 16 components, levels up to
     * 32. Components 0 .. 13 have one precinct, component 14 has one at each point, component 15 four at
     * level 32 and one at the levels 31 and 30.
     */
    private static PacketOrder farAway() {
        PacketOrder x = new PacketOrder();
        x.tile(32764, 32764, 32767, 32767);
        for (int c = 0; c < 16; c++) {
            x.component(1, 1, c == 15 ? 32 : 0);
        }
        x.precincts(14, 0, 0, 0);
        x.precincts(15, 32, 1, 1);
        return x;
    }

    private static int[] packetFarAway(PacketOrder x) {
        int[] p = {x.packet(0), x.packet(1), x.packet(2), x.packet(3), 0, 0};
        int columns = p[COMPONENT] == 14 ? 3 : 2;
        int width = p[COMPONENT] == 14 ? 1 : 2;
        p[X] = 32764 + p[PRECINCT] % columns * width;
        p[Y] = 32764 + p[PRECINCT] / columns * width;
        return p;
    }

    private static void rowOfChanges() {
        PacketOrder x = four();
        for (int i = 1; i <= 32; i++) {
            int count = i;
            due("change " + i, count, () -> x.change(0, 1, 0, 1, count, 0));
        }
        due("one more", STATE, () -> x.change(0, 1, 0, 1, 33, 0));
        x.layers(40, 0);
        due("all packets", 160, x::begin);
        due("those of 32 changes", 128, () -> x.skip(MOST));
        due("the last one's number", 31, () -> x.packet(4));
        due("its layer", 31, () -> x.packet(0));
    }

    /** Which packets come by one change, each by one of its numbers. */
    private static String by(PacketOrder x, int what, int... change) {
        x.clear();
        tellChange(x, change);
        x.begin();
        return numbers(x, what, 40);
    }

    private static void levelsOfAChange() {
        PacketOrder x = new PacketOrder();
        x.tile(0, 0, 8, 8);
        x.component(1, 1, 3);
        due("the first", "0", () -> by(x, 1, 0, 1, 0, 16, 255, 0));
        due("from the second on", "1 2", () -> by(x, 1, 1, 3, 0, 16, 255, 0));
        due("the last", "3", () -> by(x, 1, 3, 4, 0, 16, 255, 0));
        due("the last and further on", "3", () -> by(x, 1, 3, 33, 0, 16, 255, 0));
        due("all but the last", "0 1 2", () -> by(x, 1, 0, 3, 0, 16, 255, 0));
        due("all", "0 1 2 3", () -> by(x, 1, 0, 4, 0, 16, 255, 0));
        due("all there can be", "0 1 2 3", () -> by(x, 1, 0, 33, 0, 16, 255, 0));
        due("none behind the last", "", () -> by(x, 1, 4, 33, 0, 16, 255, 0));
        PacketOrder deep = new PacketOrder();
        deep.tile(0, 0, 8, 8);
        deep.component(1, 1, 32);
        due("level 32", "32", () -> by(deep, 1, 32, 33, 0, 16, 255, 0));
        due("level 31", "31", () -> by(deep, 1, 31, 32, 0, 16, 255, 0));
        due("both", "31 32", () -> by(deep, 1, 31, 33, 0, 16, 255, 0));
    }

    private static void componentsOfAChange() {
        PacketOrder x = new PacketOrder();
        x.tile(0, 0, 8, 8);
        for (int c = 0; c < 3; c++) {
            x.component(1, 1, 0);
        }
        due("the first", "0", () -> by(x, 2, 0, 33, 0, 1, 255, 0));
        due("the second", "1", () -> by(x, 2, 0, 33, 1, 2, 255, 0));
        due("the last", "2", () -> by(x, 2, 0, 33, 2, 3, 255, 0));
        due("from the second on", "1 2", () -> by(x, 2, 0, 33, 1, 16, 255, 0));
        due("all but the last", "0 1", () -> by(x, 2, 0, 33, 0, 2, 255, 0));
        due("all", "0 1 2", () -> by(x, 2, 0, 33, 0, 3, 255, 0));
        due("all there can be", "0 1 2", () -> by(x, 2, 0, 33, 0, 16, 255, 0));
        due("none behind the last", "", () -> by(x, 2, 0, 33, 3, 16, 255, 0));
        for (int c = 3; c < 16; c++) {
            x.component(1, 1, 0);
        }
        due("component 15", "15", () -> by(x, 2, 0, 33, 15, 16, 255, 0));
        due("component 14", "14", () -> by(x, 2, 0, 33, 14, 15, 255, 0));
        due("both", "14 15", () -> by(x, 2, 0, 33, 14, 16, 255, 0));
    }

    private static void layersOfAChange() {
        PacketOrder x = new PacketOrder();
        x.tile(0, 0, 8, 8);
        x.component(1, 1, 0);
        x.layers(3, 0);
        due("to before 1", "0", () -> by(x, 0, 0, 33, 0, 16, 1, 0));
        due("to before 2", "0 1", () -> by(x, 0, 0, 33, 0, 16, 2, 0));
        due("to before 3", "0 1 2", () -> by(x, 0, 0, 33, 0, 16, 3, 0));
        due("to before 4", "0 1 2", () -> by(x, 0, 0, 33, 0, 16, 4, 0));
        due("to before 255", "0 1 2", () -> by(x, 0, 0, 33, 0, 16, 255, 0));
        x.layers(255, 0);
        for (int end : new int[] {1, 254, 255}) {
            x.clear();
            x.change(0, 33, 0, 16, end, 0);
            x.begin();
            due("to before " + end + " of 255", end, () -> x.skip(MOST));
        }
    }

    private static void orderOfAChange() {
        String[] want = {"0 1 2 3 0 1 2 3", "0 1 2 3 0 1 2 3", "0 0 1 1 2 2 3 3", "0 0 1 1 2 2 3 3", "0 0 1 1 2 2 3 3"};
        for (int order = 0; order < 5; order++) {
            int number = order;
            PacketOrder x = four();
            x.layers(2, order < 2 ? 4 : 0);
            due("order " + order, want[order], () -> by(x, 3, 0, 1, 0, 1, 2, number));
        }
        PacketOrder x = four();
        x.layers(4, 1);
        x.change(0, 1, 0, 1, 2, 4);
        x.change(0, 1, 0, 1, 4, 0);
        x.begin();
        due("each its own", "0 0 1 1 2 2 3 3 0 1 2 3 0 1 2 3", () -> numbers(x, 3, 40));
    }

    private static void changeByChange() {
        PacketOrder x = new PacketOrder();
        x.tile(0, 0, 8, 8);
        for (int c = 0; c < 3; c++) {
            x.component(1, 1, 0);
        }
        x.change(0, 1, 2, 3, 1, 0);
        x.change(0, 1, 0, 1, 1, 0);
        x.change(0, 1, 1, 2, 1, 0);
        x.begin();
        due("as they were told", "2 0 1", () -> numbers(x, 2, 9));
        x.begin();
        due("by which of them", "0 1 2", () -> numbers(x, 4, 9));
        x.change(5, 6, 0, 1, 1, 0);
        x.component(1, 1, 0);
        x.change(0, 1, 0, 16, 1, 0);
        x.begin();
        due("one of them has none", "0 1 2 4", () -> numbers(x, 4, 9));
        x.begin();
        due("all at once", 4, () -> x.skip(9));
        due("the last one's number", 4, () -> x.packet(4));
    }

    private static void notBefore() {
        PacketOrder x = four();
        x.layers(3, 0);
        x.change(0, 1, 0, 1, 1, 0);
        x.change(0, 1, 0, 1, 1, 0);
        x.change(0, 1, 0, 1, 3, 2);
        x.change(0, 1, 0, 1, 2, 2);
        x.change(0, 33, 0, 16, 255, 1);
        due("all packets", 12, x::begin);
        due("each of them once", "0.0.0.0 0.0.0.1 0.0.0.2 0.0.0.3 1.0.0.0 2.0.0.0 1.0.0.1 2.0.0.1 1.0.0.2 2.0.0.2"
                + " 1.0.0.3 2.0.0.3", () -> packets(x, 40));
        due("no more of any change", 0, () -> x.skip(MOST));
        x.begin();
        due("by which change", "0 0 0 0 2 2 2 2 2 2 2 2", () -> numbers(x, 4, 40));
        PacketOrder uneven = manyPlaces();
        uneven.layers(2, 0);
        uneven.change(1, 2, 0, 1, 1, 0);
        uneven.change(0, 33, 0, 1, 2, 0);
        uneven.begin();
        due("where some came", "0.1.0.0 0.1.0.1 0.1.0.2 0.1.0.3 0.0.0.0 0.0.0.1 0.0.0.2 0.0.0.3 1.0.0.0 1.0.0.1"
                + " 1.0.0.2 1.0.0.3 1.1.0.0 1.1.0.1 1.1.0.2 1.1.0.3", () -> packets(uneven, 40));
    }

    private static void withoutChanges() {
        for (int order = 0; order < 5; order += 2) {
            PacketOrder x = four();
            String want = order == 0 ? "0 1 2 3 0 1 2 3" : "0 0 1 1 2 2 3 3";
            x.layers(2, order);
            due("all", 8, x::begin);
            due("order " + order, want, () -> numbers(x, 3, 20));
            x.change(0, 33, 0, 16, 255, 4 - order);
            x.clear();
            x.begin();
            due("order " + order + " again", want, () -> numbers(x, 3, 20));
            x.change(0, 33, 0, 16, 1, 4);
            x.begin();
            due("with a change no more than its packets", "0 1 2 3", () -> numbers(x, 3, 20));
        }
    }
}
