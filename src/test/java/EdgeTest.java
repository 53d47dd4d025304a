/**
 * The sentences of the promises that name a boundary case, each with a test of its own: the last
 * value that is allowed and the first one that is not, on each side; nothing, and all there is.
 */
public final class EdgeTest extends Checks {
    public static void main(String[] args) {
        sentence("1: No tile", EdgeTest::noTile);
        sentence("1: no components", EdgeTest::noComponents);
        sentence("1: one layer", EdgeTest::oneLayer);
        sentence("1: order 0", EdgeTest::orderZero);
        sentence("1: no changes", EdgeTest::noChanges);
        sentence("2: The tile", EdgeTest::lastTileCounts);
        sentence("2: IllegalArgumentException if it is empty", EdgeTest::emptyTile);
        sentence("2: x0 or y0 below 0", EdgeTest::tileBelow);
        sentence("2: x1 or y1 above 32767", EdgeTest::tileAbove);
        sentence("3: A new component with so many levels N", EdgeTest::levelsOfANewComponent);
        sentence("3: all exponents 15", EdgeTest::exponentsOfANewComponent);
        sentence("3: its number", EdgeTest::numberOfANewComponent);
        sentence("3: IllegalArgumentException if a step is not 1 .. 255", EdgeTest::steps);
        sentence("3: or N not 0 .. 32", EdgeTest::levels);
        sentence("3: IllegalStateException if there are 16", EdgeTest::sixteenComponents);
        sentence("4: The exponents of a component's level", EdgeTest::exponentsOfALevel);
        sentence("4: NoSuchElementException if there is none such", EdgeTest::noSuchLevel);
        sentence("4: IllegalArgumentException if one is not 0 .. 15", EdgeTest::exponents);
        sentence("4: or 0 at a level above 0", EdgeTest::exponentZero);
        sentence("5: L, and the tile's own order", EdgeTest::layersAndOrder);
        sentence("5: IllegalArgumentException if L is not 1 .. 255", EdgeTest::layers);
        sentence("5: or there is no such order", EdgeTest::ownOrders);
        sentence("6: One more change: how many", EdgeTest::howManyChanges);
        sentence("6: IllegalArgumentException if the levels are not from 0 .. 32 to before a greater one up to 33",
                EdgeTest::levelsOfAChange);
        sentence("6: the components from 0 .. 15 to before a greater one up to 16", EdgeTest::componentsOfAChange);
        sentence("6: the layers to before one 1 .. 255", EdgeTest::layersOfAChange);
        sentence("6: or there is no such order", EdgeTest::ordersOfAChange);
        sentence("6: IllegalStateException if there are 32", EdgeTest::thirtyTwoChanges);
        sentence("7: No changes", EdgeTest::clear);
        sentence("8: A sequence begins, ahead of its first packet", EdgeTest::aheadOfTheFirst);
        sentence("8: how many packets there are for all layers and precincts", EdgeTest::howManyPackets);
        sentence("8: not all of them come, if there are changes", EdgeTest::notAllCome);
        sentence("8: IllegalStateException if there is no tile, or no component", EdgeTest::nothingToBegin);
        sentence("8: UnsupportedOperationException if there are more than 4096 precincts", EdgeTest::mostPrecincts);
        sentence("9: The next packet comes; false if there is none any more", EdgeTest::nextAtTheEnd);
        sentence("9: IllegalStateException if there is no sequence", EdgeTest::nextWithoutSequence);
        sentence("10: So many packets come, or as many as there are still: how many", EdgeTest::skip);
        sentence("10: IllegalArgumentException if n is below 0", EdgeTest::skipBelow);
        sentence("10: IllegalStateException if there is no sequence", EdgeTest::skipWithoutSequence);
        sentence("11: Of the packet that came last", EdgeTest::lastPacketStays);
        sentence("11: what 0 its layer, 1 its level, 2 its component, 3 its precinct", EdgeTest::whatOfAPacket);
        sentence("11: 4 the number of the change it came by (0 without changes)", EdgeTest::changeOfAPacket);
        sentence("11: NoSuchElementException if there is no sequence", EdgeTest::packetWithoutSequence);
        sentence("11: none came", EdgeTest::packetWhenNoneCame);
        sentence("11: or no such what", EdgeTest::noSuchWhat);
        sentence("12: How many packets of a precinct came in the sequence", EdgeTest::came);
        sentence("12: NoSuchElementException if there is no sequence", EdgeTest::cameWithoutSequence);
        sentence("12: or no such precinct", EdgeTest::noSuchPrecinct);
        end();
    }

    private static void noTile() {
        PacketOrder x = new PacketOrder();
        x.component(1, 1, 0);
        due("begin", STATE, x::begin);
        due("next", STATE, x::next);
        x.tile(0, 0, 1, 1);
        due("begin with a tile", 1, x::begin);
    }

    private static void noComponents() {
        PacketOrder x = new PacketOrder();
        x.tile(0, 0, 1, 1);
        due("begin", STATE, x::begin);
        refused("precincts", ELEMENT, () -> x.precincts(0, 0, 1, 1));
        due("came", ELEMENT, () -> x.came(0, 0, 0));
        due("the first one's number", 0, () -> x.component(1, 1, 0));
        due("begin with a component", 1, x::begin);
    }

    private static void oneLayer() {
        PacketOrder x = four();
        due("begin", 4, x::begin);
        due("all of them", "0 0 0 0", () -> numbers(x, 0, 9));
        due("came", 1, () -> x.came(0, 0, 3));
    }

    /** Level ahead of component, component ahead of place: with one layer that is so in order 0 (and 1) alone. */
    private static void orderZero() {
        PacketOrder x = new PacketOrder();
        x.tile(0, 0, 4, 4);
        x.component(1, 1, 1);
        x.component(1, 1, 1);
        x.precincts(0, 1, 1, 2);
        x.precincts(1, 1, 1, 2);
        x.begin();
        due("packets", "0.0.0.0 0.0.1.0 0.1.0.0 0.1.0.1 0.1.1.0 0.1.1.1", () -> packets(x, 9));
    }

    private static void noChanges() {
        PacketOrder x = four();
        due("begin", 4, x::begin);
        due("all come", 4, () -> x.skip(9));
        due("by change", 0, () -> x.packet(4));
        due("the first change", 1, () -> x.change(0, 1, 0, 1, 1, 0));
    }

    private static void lastTileCounts() {
        PacketOrder x = four();
        x.precincts(0, 0, 0, 0);
        due("16 points", 16, x::begin);
        x.tile(1, 0, 4, 4);
        due("x0", 12, x::begin);
        x.tile(0, 1, 4, 4);
        due("y0", 12, x::begin);
        x.tile(0, 0, 3, 4);
        due("x1", 12, x::begin);
        x.tile(0, 0, 4, 3);
        due("y1", 12, x::begin);
        x.tile(2, 3, 9, 5);
        due("all four", 14, x::begin);
    }

    private static void refusedTile(PacketOrder x, int x0, int y0, int x1, int y1) {
        refused("tile " + x0 + ", " + y0 + " .. " + x1 + ", " + y1, ARGUMENT, () -> x.tile(x0, y0, x1, y1));
    }

    private static void tileOf(int points, PacketOrder x, int x0, int y0, int x1, int y1) {
        String name = "tile " + x0 + ", " + y0 + " .. " + x1 + ", " + y1;
        done(name, () -> x.tile(x0, y0, x1, y1));
        due("points of " + name, points, x::begin);
    }

    private static PacketOrder points() {
        PacketOrder x = new PacketOrder();
        x.component(1, 1, 0);
        x.precincts(0, 0, 0, 0);
        return x;
    }

    private static void emptyTile() {
        PacketOrder x = points();
        refusedTile(x, 0, 0, 0, 0);
        refusedTile(x, 5, 0, 5, 9);
        refusedTile(x, 6, 0, 5, 9);
        refusedTile(x, 32767, 0, 0, 9);
        refusedTile(x, 32767, 0, 32767, 9);
        refusedTile(x, 0, 5, 9, 5);
        refusedTile(x, 0, 6, 9, 5);
        refusedTile(x, 0, 32767, 9, 0);
        refusedTile(x, 0, 32767, 9, 32767);
        refusedTile(x, 5, 5, 5, 5);
        // Turned in both directions, so that the product of the sides is above 0.
        refusedTile(x, 7, 7, 5, 5);
        refusedTile(x, MOST, MOST, LEAST, LEAST);
        refusedTile(x, 5, 0, LEAST, 9);
        refusedTile(x, 0, 5, 9, LEAST);
        due("no tile yet", STATE, x::begin);
        tileOf(1, x, 0, 0, 1, 1);
        tileOf(9, x, 4, 0, 5, 9);
        tileOf(9, x, 0, 4, 9, 5);
    }

    private static void tileBelow() {
        PacketOrder x = points();
        for (int bad : new int[] {-1, -2, -32768, LEAST}) {
            refusedTile(x, bad, 0, 5, 5);
            refusedTile(x, 0, bad, 5, 5);
            refusedTile(x, bad, bad, 5, 5);
            refusedTile(x, bad, 0, 0, 5);
            refusedTile(x, 0, bad, 5, 0);
        }
        due("no tile yet", STATE, x::begin);
        tileOf(25, x, 0, 0, 5, 5);
        tileOf(20, x, 1, 0, 5, 5);
        tileOf(20, x, 0, 1, 5, 5);
    }

    private static void tileAbove() {
        PacketOrder x = points();
        for (int bad : new int[] {32768, 32769, 65536, MOST}) {
            refusedTile(x, 32760, 32760, bad, 32767);
            refusedTile(x, 32760, 32760, 32767, bad);
            refusedTile(x, 32760, 32760, bad, bad);
        }
        refusedTile(x, 32767, 0, 32768, 1);
        refusedTile(x, 0, 32767, 1, 32768);
        due("no tile yet", STATE, x::begin);
        tileOf(49, x, 32760, 32760, 32767, 32767);
        tileOf(42, x, 32760, 32760, 32766, 32767);
        tileOf(42, x, 32760, 32760, 32767, 32766);
        x.precincts(0, 0, 15, 15);
        tileOf(1, x, 0, 0, 32767, 32767);
        tileOf(1, x, 32766, 32766, 32767, 32767);
    }

    private static void levelsOfANewComponent() {
        for (int n : new int[] {0, 1, 2, 31, 32}) {
            PacketOrder x = new PacketOrder();
            x.tile(0, 0, 9, 9);
            due("component", 0, () -> x.component(1, 1, n));
            due("a packet for each level of " + n, n + 1, x::begin);
            due("its last level", 0, () -> x.came(0, n, 0));
            due("no further one", ELEMENT, () -> x.came(0, n + 1, 0));
        }
    }

    /** With 14 the upper level of the largest tile would have two columns and two rows, with 13 the next one too. */
    private static void exponentsOfANewComponent() {
        PacketOrder x = new PacketOrder();
        x.tile(0, 0, 32767, 32767);
        for (int n : new int[] {0, 1, 32}) {
            x.component(1, 1, n);
        }
        due("a precinct for each level", 1 + 2 + 33, x::begin);
        for (int c = 0; c < 3; c++) {
            int number = c;
            due("level 0", 0, () -> x.came(number, 0, 0));
            due("no second precinct", ELEMENT, () -> x.came(number, 0, 1));
        }
        due("no second precinct of level 1", ELEMENT, () -> x.came(1, 1, 1));
        due("no second precinct of level 32", ELEMENT, () -> x.came(2, 32, 1));
    }

    private static void numberOfANewComponent() {
        PacketOrder x = new PacketOrder();
        for (int c = 0; c < 16; c++) {
            int number = c;
            due("component " + c, number, () -> x.component(1 + number, 255 - number, 2 * number));
            due("one that is refused", ARGUMENT, () -> x.component(0, 1, 1));
        }
    }

    private static void steps() {
        PacketOrder x = new PacketOrder();
        x.tile(0, 0, 256, 256);
        for (int bad : new int[] {0, 256, -1, 257, -255, LEAST, MOST}) {
            due("dx " + bad, ARGUMENT, () -> x.component(bad, 1, 0));
            due("dy " + bad, ARGUMENT, () -> x.component(1, bad, 0));
            due("both " + bad, ARGUMENT, () -> x.component(bad, bad, 0));
        }
        due("no component yet", STATE, x::begin);
        int[][] good = {{1, 255, 256, 2}, {255, 1, 2, 256}, {2, 254, 128, 2}, {254, 2, 2, 128}, {255, 255, 2, 2}};
        for (int c = 0; c < good.length; c++) {
            int number = c;
            int[] step = good[c];
            due("steps " + step[0] + ", " + step[1], number, () -> x.component(step[0], step[1], 0));
            x.precincts(c, 0, 0, 0);
            x.begin();
            due("its last precinct", 0, () -> x.came(number, 0, step[2] * step[3] - 1));
            due("one more", ELEMENT, () -> x.came(number, 0, step[2] * step[3]));
        }
        due("steps 1, 1", 5, () -> x.component(1, 1, 0));
    }

    private static void levels() {
        PacketOrder x = new PacketOrder();
        x.tile(0, 0, 1, 1);
        for (int bad : new int[] {-1, 33, -2, 34, 64, LEAST, MOST}) {
            due("N " + bad, ARGUMENT, () -> x.component(1, 1, bad));
        }
        due("no component yet", STATE, x::begin);
        due("N 0", 0, () -> x.component(1, 1, 0));
        due("one level", 1, x::begin);
        due("N 32", 1, () -> x.component(1, 1, 32));
        due("33 levels more", 34, x::begin);
        due("N 31", 2, () -> x.component(1, 1, 31));
        due("32 levels more", 66, x::begin);
    }

    private static void sixteenComponents() {
        PacketOrder x = new PacketOrder();
        x.tile(0, 0, 1, 1);
        for (int c = 0; c < 15; c++) {
            x.component(1, 1, 0);
        }
        due("the sixteenth", 15, () -> x.component(1, 1, 0));
        due("the seventeenth", STATE, () -> x.component(1, 1, 0));
        due("the seventeenth again", STATE, () -> x.component(255, 255, 32));
        due("sixteen packets", 16, x::begin);
        x.clear();
        x.tile(0, 0, 2, 2);
        due("still sixteen", STATE, () -> x.component(1, 1, 0));
    }

    private static void exponentsOfALevel() {
        PacketOrder x = new PacketOrder();
        x.tile(0, 0, 16, 16);
        x.component(1, 1, 1);
        due("a precinct each", 2, x::begin);
        x.precincts(0, 0, 2, 15);
        due("columns of level 0", 2 + 1, x::begin);
        x.precincts(0, 0, 15, 1);
        due("rows of level 0", 4 + 1, x::begin);
        x.precincts(0, 1, 1, 3);
        due("both of level 1", 4 + 8 * 2, x::begin);
        x.precincts(0, 1, 3, 1);
        due("the other way round", 4 + 2 * 8, x::begin);
        x.precincts(0, 1, 15, 15);
        x.precincts(0, 0, 15, 15);
        due("as at first", 2, x::begin);
    }

    private static void noSuchLevel() {
        PacketOrder x = new PacketOrder();
        refused("no component at all", ELEMENT, () -> x.precincts(0, 0, 1, 1));
        x.component(1, 1, 2);
        x.component(1, 1, 32);
        for (int bad : new int[] {-1, 2, 3, 15, 16, LEAST, MOST}) {
            refused("component " + bad, ELEMENT, () -> x.precincts(bad, 0, 1, 1));
        }
        for (int bad : new int[] {-1, 3, 4, 32, 33, LEAST, MOST}) {
            refused("level " + bad + " of 0", ELEMENT, () -> x.precincts(0, bad, 1, 1));
        }
        for (int bad : new int[] {-1, 33, 34, LEAST, MOST}) {
            refused("level " + bad + " of 1", ELEMENT, () -> x.precincts(1, bad, 1, 1));
        }
        done("level 0 of 0", () -> x.precincts(0, 0, 1, 1));
        done("level 2 of 0", () -> x.precincts(0, 2, 1, 1));
        done("level 0 of 1", () -> x.precincts(1, 0, 1, 1));
        done("level 32 of 1", () -> x.precincts(1, 32, 1, 1));
    }

    private static void exponents() {
        PacketOrder x = new PacketOrder();
        x.tile(0, 0, 4, 32767);
        x.component(1, 1, 1);
        for (int r = 0; r < 2; r++) {
            int level = r;
            for (int bad : new int[] {-1, 16, -2, 17, 31, 32, LEAST, MOST}) {
                refused("pw " + bad, ARGUMENT, () -> x.precincts(0, level, bad, 5));
                refused("ph " + bad, ARGUMENT, () -> x.precincts(0, level, 5, bad));
                refused("both " + bad, ARGUMENT, () -> x.precincts(0, level, bad, bad));
            }
        }
        due("a precinct each", 2, x::begin);
        done("0 and 15", () -> x.precincts(0, 0, 0, 15));
        due("two columns", 2 + 1, x::begin);
        done("1 and 14", () -> x.precincts(0, 1, 1, 14));
        due("two columns and rows", 2 + 4, x::begin);
        done("15 and 15", () -> x.precincts(0, 1, 15, 15));
        due("one again", 2 + 1, x::begin);
        x.tile(0, 0, 32767, 4);
        done("15 and 0", () -> x.precincts(0, 0, 15, 0));
        due("two rows", 2 + 1, x::begin);
        done("14 and 1", () -> x.precincts(0, 1, 14, 1));
        due("two rows and columns", 2 + 4, x::begin);
    }

    private static void exponentZero() {
        PacketOrder x = new PacketOrder();
        x.tile(0, 0, 4, 4);
        x.component(1, 1, 0);
        x.component(1, 1, 1);
        x.component(1, 1, 32);
        int[][] above = {{1, 1}, {2, 1}, {2, 2}, {2, 31}, {2, 32}};
        for (int[] level : above) {
            String name = " at level " + level[1] + " of " + level[0];
            refused("pw 0" + name, ARGUMENT, () -> x.precincts(level[0], level[1], 0, 1));
            refused("ph 0" + name, ARGUMENT, () -> x.precincts(level[0], level[1], 1, 0));
            refused("both 0" + name, ARGUMENT, () -> x.precincts(level[0], level[1], 0, 0));
        }
        due("nothing changed", 1 + 2 + 33, x::begin);
        for (int c = 0; c < 3; c++) {
            int number = c;
            done("0 at level 0 of " + c, () -> x.precincts(number, 0, 0, 0));
        }
        due("a precinct for each point", 16 + 4 + 1 + 1 + 33 - 1, x::begin);
        for (int[] level : above) {
            done("1 at level " + level[1] + " of " + level[0], () -> x.precincts(level[0], level[1], 1, 1));
        }
        due("four at the upper levels", 16 + 4 + 4 + 4 + 33 - 1, x::begin);
    }

    private static void layersAndOrder() {
        PacketOrder x = four();
        x.layers(2, 4);
        due("packets", 8, x::begin);
        due("order 4", "0 0 1 1 2 2 3 3", () -> numbers(x, 3, 9));
        x.layers(1, 4);
        due("one layer again", 4, x::begin);
        x.layers(2, 0);
        due("two again", 8, x::begin);
        due("order 0", "0 1 2 3 0 1 2 3", () -> numbers(x, 3, 9));
        x.change(0, 1, 0, 1, 1, 0);
        x.layers(3, 2);
        due("changes stay", 2, () -> x.change(0, 1, 0, 1, 2, 0));
        due("three", 12, x::begin);
        due("those of the changes", 8, () -> x.skip(MOST));
    }

    private static void layers() {
        PacketOrder x = four();
        for (int bad : new int[] {0, 256, -1, 257, 512, LEAST, MOST}) {
            refused("L " + bad, ARGUMENT, () -> x.layers(bad, 2));
        }
        due("still one", 4, x::begin);
        for (int good : new int[] {255, 1, 254, 2}) {
            done("L " + good, () -> x.layers(good, 0));
            due("packets of " + good, 4 * good, x::begin);
            due("all of " + good, 4 * good, () -> x.skip(MOST));
            due("the last layer of " + good, good - 1, () -> x.packet(0));
        }
    }

    private static void ownOrders() {
        PacketOrder x = four();
        for (int bad : new int[] {-1, 5, -2, 6, 255, LEAST, MOST}) {
            refused("order " + bad, ARGUMENT, () -> x.layers(3, bad));
        }
        due("still one layer", 4, x::begin);
        for (int good = 0; good < 5; good++) {
            int order = good;
            done("order " + good, () -> x.layers(2, order));
            x.begin();
            due("its packets", order < 2 ? "0 1 2 3 0 1 2 3" : "0 0 1 1 2 2 3 3", () -> numbers(x, 3, 9));
        }
    }

    private static void howManyChanges() {
        PacketOrder x = four();
        for (int i = 1; i <= 32; i++) {
            int count = i;
            due("change " + i, count, () -> x.change(0, count, 0, 1 + count % 16, count, count % 5));
            due("one that is refused", ARGUMENT, () -> x.change(0, 1, 0, 1, 0, 0));
        }
    }

    private static void changes(int[][] rows, Object want) {
        for (int[] a : rows) {
            PacketOrder x = four();
            String name = "change " + java.util.Arrays.toString(a);
            due(name, want, () -> tellChange(x, a));
            due("how many then: " + name, want.equals(1) ? 2 : 1, () -> x.change(0, 1, 0, 1, 1, 0));
        }
    }

    private static void levelsOfAChange() {
        changes(new int[][] {
            {-1, 0, 0, 1, 1, 0}, {-1, 1, 0, 1, 1, 0}, {-1, 33, 0, 1, 1, 0}, {0, 0, 0, 1, 1, 0}, {1, 0, 0, 1, 1, 0},
            {1, 1, 0, 1, 1, 0}, {2, 1, 0, 1, 1, 0}, {31, 31, 0, 1, 1, 0}, {32, 32, 0, 1, 1, 0}, {32, 31, 0, 1, 1, 0},
            {33, 33, 0, 1, 1, 0}, {33, 32, 0, 1, 1, 0}, {33, 34, 0, 1, 1, 0}, {32, 34, 0, 1, 1, 0},
            {0, 34, 0, 1, 1, 0}, {0, -1, 0, 1, 1, 0}, {0, LEAST, 0, 1, 1, 0}, {0, MOST, 0, 1, 1, 0},
            {LEAST, 1, 0, 1, 1, 0}, {LEAST, MOST, 0, 1, 1, 0}, {MOST, LEAST, 0, 1, 1, 0}, {MOST, MOST, 0, 1, 1, 0},
        }, ARGUMENT);
        changes(new int[][] {
            {0, 1, 0, 1, 1, 0}, {0, 2, 0, 1, 1, 0}, {0, 32, 0, 1, 1, 0}, {0, 33, 0, 1, 1, 0}, {1, 2, 0, 1, 1, 0},
            {31, 32, 0, 1, 1, 0}, {31, 33, 0, 1, 1, 0}, {32, 33, 0, 1, 1, 0},
        }, 1);
    }

    private static void componentsOfAChange() {
        changes(new int[][] {
            {0, 1, -1, 0, 1, 0}, {0, 1, -1, 1, 1, 0}, {0, 1, -1, 16, 1, 0}, {0, 1, 0, 0, 1, 0}, {0, 1, 1, 0, 1, 0},
            {0, 1, 1, 1, 1, 0}, {0, 1, 2, 1, 1, 0}, {0, 1, 14, 14, 1, 0}, {0, 1, 15, 15, 1, 0}, {0, 1, 15, 14, 1, 0},
            {0, 1, 16, 16, 1, 0}, {0, 1, 16, 15, 1, 0}, {0, 1, 16, 17, 1, 0}, {0, 1, 15, 17, 1, 0},
            {0, 1, 0, 17, 1, 0}, {0, 1, 0, -1, 1, 0}, {0, 1, 0, LEAST, 1, 0}, {0, 1, 0, MOST, 1, 0},
            {0, 1, LEAST, 1, 1, 0}, {0, 1, LEAST, MOST, 1, 0}, {0, 1, MOST, LEAST, 1, 0}, {0, 1, MOST, MOST, 1, 0},
        }, ARGUMENT);
        changes(new int[][] {
            {0, 1, 0, 1, 1, 0}, {0, 1, 0, 2, 1, 0}, {0, 1, 0, 15, 1, 0}, {0, 1, 0, 16, 1, 0}, {0, 1, 1, 2, 1, 0},
            {0, 1, 14, 15, 1, 0}, {0, 1, 14, 16, 1, 0}, {0, 1, 15, 16, 1, 0},
        }, 1);
    }

    private static void layersOfAChange() {
        changes(new int[][] {
            {0, 1, 0, 1, 0, 0}, {0, 1, 0, 1, -1, 0}, {0, 1, 0, 1, 256, 0}, {0, 1, 0, 1, 257, 0}, {0, 1, 0, 1, LEAST, 0},
            {0, 1, 0, 1, MOST, 0},
        }, ARGUMENT);
        changes(new int[][] {{0, 1, 0, 1, 1, 0}, {0, 1, 0, 1, 2, 0}, {0, 1, 0, 1, 254, 0}, {0, 1, 0, 1, 255, 0}}, 1);
    }

    private static void ordersOfAChange() {
        changes(new int[][] {
            {0, 1, 0, 1, 1, -1}, {0, 1, 0, 1, 1, 5}, {0, 1, 0, 1, 1, 6}, {0, 1, 0, 1, 1, LEAST}, {0, 1, 0, 1, 1, MOST},
        }, ARGUMENT);
        changes(new int[][] {
            {0, 1, 0, 1, 1, 0}, {0, 1, 0, 1, 1, 1}, {0, 1, 0, 1, 1, 2}, {0, 1, 0, 1, 1, 3}, {0, 1, 0, 1, 1, 4},
        }, 1);
    }

    private static void thirtyTwoChanges() {
        PacketOrder x = four();
        for (int i = 1; i <= 31; i++) {
            x.change(1, 2, 0, 1, 1, 0);
        }
        due("one of them", 32, () -> x.change(0, 1, 0, 1, 1, 0));
        due("one too many", STATE, () -> x.change(0, 1, 0, 1, 1, 0));
        due("another one", STATE, () -> x.change(32, 33, 15, 16, 255, 4));
        x.begin();
        due("those of the last one", 4, () -> x.skip(MOST));
        due("its number", 31, () -> x.packet(4));
        x.layers(2, 2);
        due("still one too many", STATE, () -> x.change(0, 1, 0, 1, 1, 0));
        x.clear();
        due("from one again", 1, () -> x.change(0, 1, 0, 1, 1, 0));
    }

    private static void clear() {
        for (int count : new int[] {0, 1, 32}) {
            PacketOrder x = four();
            x.layers(2, 4);
            for (int i = 0; i < count; i++) {
                x.change(0, 1, 0, 1, 1, 0);
            }
            done("clear of " + count, x::clear);
            due("all there is", 8, x::begin);
            due("in the own order", "0 0 1 1 2 2 3 3", () -> numbers(x, 3, 20));
            due("by no change", 0, () -> x.packet(4));
            for (int i = 1; i <= 32; i++) {
                int again = i;
                due("change " + i + " behind clear", again, () -> x.change(0, 1, 0, 1, 1, 0));
            }
            due("one too many", STATE, () -> x.change(0, 1, 0, 1, 1, 0));
        }
        PacketOrder x = new PacketOrder();
        done("clear of a new one", x::clear);
        due("no tile still", STATE, x::begin);
    }

    private static void aheadOfTheFirst() {
        PacketOrder x = four();
        x.layers(2, 0);
        for (int taken : new int[] {0, 1, 7, 8, 9}) {
            x.begin();
            x.skip(taken);
            due("again behind " + taken, 8, x::begin);
            due("none came behind " + taken, ELEMENT, () -> x.packet(0));
            due("of no change behind " + taken, ELEMENT, () -> x.packet(4));
            for (int p = 0; p < 4; p++) {
                int number = p;
                due("none of " + p + " behind " + taken, 0, () -> x.came(0, 0, number));
            }
            due("the first behind " + taken, "0.0.0.0 0.0.0.1", () -> packets(x, 2));
        }
        x.begin();
        x.begin();
        due("two in turn", "0 0 0 0 1 1 1 1", () -> numbers(x, 0, 20));
        PacketOrder y = four();
        y.layers(2, 0);
        y.change(0, 1, 0, 1, 1, 0);
        y.change(0, 1, 0, 1, 2, 0);
        y.begin();
        y.skip(6);
        due("by the second change", 1, () -> y.packet(4));
        y.begin();
        due("from the first change on", "0 0 0 0 1 1 1 1", () -> numbers(y, 4, 20));
    }

    private static void howManyPackets() {
        PacketOrder x = four();
        due("4 precincts", 4, x::begin);
        x.layers(255, 0);
        due("255 layers", 4 * 255, x::begin);
        x.component(1, 1, 2);
        due("three levels more", 7 * 255, x::begin);
        x.precincts(1, 2, 1, 1);
        due("four precincts there", 10 * 255, x::begin);
        x.tile(0, 0, 2, 4);
        due("half of the tile", (2 + 2 + 2) * 255, x::begin);
        PacketOrder none = new PacketOrder();
        none.tile(1, 1, 2, 2);
        none.component(2, 2, 0);
        none.layers(255, 0);
        due("nothing", 0, none::begin);
        due("nothing comes", 0, () -> none.skip(MOST));
        PacketOrder all = points();
        all.tile(0, 0, 64, 64);
        all.layers(255, 0);
        due("all there can be", 4096 * 255, all::begin);
        due("all of them come", 4096 * 255, () -> all.skip(MOST));
    }

    private static void notAllCome() {
        PacketOrder x = four();
        x.layers(3, 0);
        x.change(0, 1, 0, 1, 2, 0);
        due("all", 12, x::begin);
        due("two layers come", 8, () -> x.skip(MOST));
        due("none any more", false, x::next);
        due("came", 2, () -> x.came(0, 0, 0));
        x.clear();
        x.change(1, 33, 0, 16, 255, 0);
        due("all still", 12, x::begin);
        due("none comes", false, x::next);
        due("none to skip", 0, () -> x.skip(MOST));
        due("none came", ELEMENT, () -> x.packet(4));
        due("none of the precinct", 0, () -> x.came(0, 0, 3));
        x.change(0, 33, 0, 16, 255, 0);
        due("all once more", 12, x::begin);
        due("all come", 12, () -> x.skip(MOST));
    }

    private static void nothingToBegin() {
        PacketOrder x = new PacketOrder();
        due("neither", STATE, x::begin);
        PacketOrder tile = new PacketOrder();
        tile.tile(0, 0, 4, 4);
        tile.layers(2, 2);
        due("no component", STATE, tile::begin);
        due("no sequence", STATE, tile::next);
        tile.component(1, 1, 0);
        due("both", 2, tile::begin);
        PacketOrder component = new PacketOrder();
        component.component(1, 1, 0);
        due("no tile", STATE, component::begin);
        due("no sequence without a tile", STATE, component::next);
        component.tile(0, 0, 4, 4);
        due("both now", 1, component::begin);
    }

    private static void mostPrecincts() {
        PacketOrder x = points();
        tileOf(4096, x, 0, 0, 64, 64);
        tileOf(4096, x, 0, 0, 4096, 1);
        tileOf(4096, x, 0, 0, 1, 4096);
        tileOf(4095, x, 0, 0, 4095, 1);
        for (int[] size : new int[][] {{17, 241}, {4097, 1}, {1, 4097}, {64, 65}, {32767, 32767}, {32767, 1}}) {
            x.tile(0, 0, size[0], size[1]);
            due("precincts " + size[0] + " * " + size[1], UNSUPPORTED, x::begin);
            due("no sequence", STATE, x::next);
            due("no precinct", ELEMENT, () -> x.came(0, 0, 0));
        }
        tileOf(4096, x, 0, 0, 64, 64);
        due("all of them", 4096, () -> x.skip(MOST));
        due("the last precinct", 1, () -> x.came(0, 0, 4095));
        mostOfSeveral();
        moreThanAnIntHolds();
    }

    private static void mostOfSeveral() {
        PacketOrder levels = new PacketOrder();
        levels.tile(0, 0, 64, 64);
        levels.component(1, 1, 1);
        levels.precincts(0, 1, 1, 1);
        levels.precincts(0, 0, 0, 0);
        due("two levels", 2048, levels::begin);
        levels.component(1, 1, 0);
        levels.precincts(1, 0, 0, 1);
        due("4096 of two components", 4096, levels::begin);
        due("the last precinct", 0, () -> levels.came(1, 0, 2047));
        levels.component(64, 64, 0);
        due("one more", UNSUPPORTED, levels::begin);
        PacketOrder components = new PacketOrder();
        components.tile(0, 0, 16, 16);
        for (int c = 0; c < 16; c++) {
            components.component(1, 1, 0);
            components.precincts(c, 0, 0, 0);
        }
        components.layers(255, 3);
        due("4096 of sixteen components", 4096 * 255, components::begin);
        components.tile(0, 0, 16, 17);
        due("272 in each", UNSUPPORTED, components::begin);
    }

    /** 4 * 32767 * 32767 and 512 * 512 are 2^32 + 4; 16 such components are far more than an int holds. */
    private static void moreThanAnIntHolds() {
        PacketOrder x = new PacketOrder();
        x.tile(0, 0, 32767, 32767);
        for (int c = 0; c < 16; c++) {
            int step = c == 4 ? 64 : 1;
            x.component(step, step, 0);
            x.precincts(c, 0, 0, 0);
            due("components " + (c + 1), UNSUPPORTED, x::begin);
        }
    }

    private static void nextAtTheEnd() {
        PacketOrder x = four();
        x.begin();
        for (int i = 0; i < 4; i++) {
            int number = i;
            due("next " + i, true, x::next);
            due("its precinct", number, () -> x.packet(3));
        }
        for (int i = 0; i < 3; i++) {
            due("no more", false, x::next);
            due("the last one stays", "0.0.0.3", () -> lastPacket(x));
            due("came", 1, () -> x.came(0, 0, 3));
        }
        PacketOrder one = new PacketOrder();
        one.tile(0, 0, 1, 1);
        one.component(1, 1, 0);
        one.begin();
        due("the only one", true, one::next);
        due("no more than one", false, one::next);
        PacketOrder none = new PacketOrder();
        none.tile(1, 1, 2, 2);
        none.component(2, 2, 0);
        none.begin();
        due("none at all", false, none::next);
        due("none at all again", false, none::next);
    }

    private static void nextWithoutSequence() {
        due("a new one", STATE, () -> new PacketOrder().next());
        PacketOrder x = four();
        due("told, not begun", STATE, x::next);
        x.begin();
        due("begun", true, x::next);
        x.layers(2, 0);
        due("told again", STATE, x::next);
    }

    private static void skip() {
        int[][] table = {
            {0, 0}, {1, 1}, {4, 4}, {5, 5}, {11, 11}, {12, 12}, {13, 12}, {255, 12}, {MOST, 12},
        };
        for (int order = 0; order < 5; order++) {
            for (int[] row : table) {
                PacketOrder x = four();
                x.layers(3, order);
                x.begin();
                due("skip " + row[0] + " in order " + order, row[1], () -> x.skip(row[0]));
                PacketOrder stepwise = four();
                stepwise.layers(3, order);
                stepwise.begin();
                for (int i = 0; i < row[1]; i++) {
                    stepwise.next();
                }
                due("as by next", answerOf(() -> lastPacket(stepwise)), () -> answerOf(() -> lastPacket(x)));
                due("the rest", 12 - row[1], () -> x.skip(MOST));
                due("nothing left", 0, () -> x.skip(MOST));
                due("nothing of nothing", 0, () -> x.skip(0));
                due("the last", "2.0.0.3", () -> lastPacket(x));
            }
        }
        skipOverChanges();
        for (int order = 0; order < 5; order++) {
            skipWhereSomeCame(order);
        }
    }

    private static void skipOverChanges() {
        for (int n = 0; n <= 13; n++) {
            int count = n;
            PacketOrder x = four();
            x.layers(3, 0);
            x.change(0, 1, 0, 1, 1, 0);
            x.change(1, 2, 0, 1, 1, 0);
            x.change(0, 1, 0, 1, 3, 4);
            x.begin();
            due("skip " + n + " over changes", Math.min(n, 12), () -> x.skip(count));
            due("by the change " + n, n == 0 ? ELEMENT : n <= 4 ? 0 : 2, () -> x.packet(4));
            due("its precinct " + n, n == 0 ? ELEMENT : n <= 4 ? n - 1 : Math.min(n - 5, 7) / 2, () -> x.packet(3));
            due("one more behind " + n, n < 12, x::next);
        }
    }

    /** Precincts of one change of which different layers came before: 4 of level 1, 2 of component 0, none else. */
    private static PacketOrder uneven(int order) {
        PacketOrder x = four();
        x.component(1, 1, 1);
        x.layers(6, 0);
        x.change(1, 2, 0, 16, 4, 0);
        x.change(0, 1, 0, 1, 2, 4);
        x.change(0, 33, 0, 16, 255, order);
        x.begin();
        return x;
    }

    private static void skipWhereSomeCame(int order) {
        PacketOrder stepwise = uneven(order);
        for (int n = 1; n <= 36; n++) {
            int count = n;
            stepwise.next();
            PacketOrder once = uneven(order);
            due("skip " + n + " in order " + order, count, () -> once.skip(count));
            due("as by next: " + n + " in order " + order, lastPacket(stepwise), () -> lastPacket(once));
            PacketOrder twice = uneven(order);
            twice.skip(12);
            due("skip 12 and more, " + n + " in order " + order, Math.max(n - 12, 0),
                    () -> twice.skip(Math.max(count - 12, 0)));
            due("the rest of " + n + " in order " + order, 36 - Math.max(n, 12), () -> twice.skip(MOST));
        }
        due("no more in order " + order, false, stepwise::next);
    }

    private static void skipBelow() {
        PacketOrder x = four();
        x.begin();
        x.next();
        for (int bad : new int[] {-1, -2, LEAST}) {
            due("skip " + bad, ARGUMENT, () -> x.skip(bad));
        }
        due("the first still", "0.0.0.0", () -> lastPacket(x));
        due("skip 0", 0, () -> x.skip(0));
        due("the first yet", "0.0.0.0", () -> lastPacket(x));
        due("the rest", 3, () -> x.skip(3));
        due("below 0 at the end", ARGUMENT, () -> x.skip(-1));
    }

    private static void skipWithoutSequence() {
        for (int n : new int[] {0, 1, MOST}) {
            due("a new one, " + n, STATE, () -> new PacketOrder().skip(n));
            PacketOrder x = four();
            due("told, not begun, " + n, STATE, () -> x.skip(n));
            x.begin();
            x.clear();
            due("cleared, " + n, STATE, () -> x.skip(n));
        }
    }

    private static void lastPacketStays() {
        PacketOrder x = four();
        x.layers(2, 0);
        x.change(0, 1, 0, 1, 1, 2);
        x.change(0, 1, 0, 1, 2, 0);
        x.change(0, 33, 0, 16, 255, 0);
        x.begin();
        x.skip(5);
        due("the fifth", "1.0.0.0", () -> lastPacket(x));
        due("asked again", "1.0.0.0", () -> lastPacket(x));
        x.skip(0);
        due("behind skip of none", "1.0.0.0", () -> lastPacket(x));
        x.skip(MOST);
        due("the last", "1.0.0.3", () -> lastPacket(x));
        due("its change", 1, () -> x.packet(4));
        x.next();
        x.skip(3);
        due("the last behind the end", "1.0.0.3", () -> lastPacket(x));
        due("its change behind the end", 1, () -> x.packet(4));
    }

    private static void whatOfAPacket() {
        PacketOrder x = new PacketOrder();
        x.tile(0, 0, 8, 8);
        x.component(1, 1, 0);
        x.component(1, 1, 2);
        x.precincts(1, 2, 1, 2);
        x.layers(4, 0);
        x.begin();
        x.skip(3 * 11 + 3 + 6);
        due("layer", 3, () -> x.packet(0));
        due("level", 2, () -> x.packet(1));
        due("component", 1, () -> x.packet(2));
        due("precinct", 5, () -> x.packet(3));
        x.begin();
        x.next();
        for (int what = 0; what < 5; what++) {
            int number = what;
            due("what " + what + " of the first", 0, () -> x.packet(number));
        }
        PacketOrder last = new PacketOrder();
        last.tile(0, 0, 1, 1);
        for (int c = 0; c < 16; c++) {
            last.component(1, 1, 32);
        }
        last.layers(255, 0);
        due("all", 16 * 33 * 255, last::begin);
        last.skip(MOST);
        due("the largest numbers", "254.32.15.0", () -> lastPacket(last));
        PacketOrder precinct = points();
        precinct.tile(0, 0, 64, 64);
        precinct.begin();
        precinct.skip(MOST);
        due("the largest precinct", "0.0.0.4095", () -> lastPacket(precinct));
    }

    private static void changeOfAPacket() {
        PacketOrder x = new PacketOrder();
        x.tile(0, 0, 1, 1);
        for (int c = 0; c < 16; c++) {
            x.component(1, 1, 1);
        }
        x.begin();
        x.next();
        due("without changes, the first", 0, () -> x.packet(4));
        x.skip(MOST);
        due("without changes, the last", 0, () -> x.packet(4));
        for (int i = 0; i < 32; i++) {
            x.change(1 - i / 16, 2 - i / 16, i % 16, i % 16 + 1, 1, 0);
        }
        x.begin();
        for (int i = 0; i < 32; i++) {
            int number = i;
            due("packet " + i, true, x::next);
            due("by change " + i, number, () -> x.packet(4));
            due("component " + i, number % 16, () -> x.packet(2));
            due("level " + i, 1 - number / 16, () -> x.packet(1));
        }
        due("no more", false, x::next);
    }

    private static void packetWithoutSequence() {
        PacketOrder x = four();
        for (int what = -1; what <= 5; what++) {
            int number = what;
            due("a new one, " + what, ELEMENT, () -> new PacketOrder().packet(number));
            due("told, not begun, " + what, ELEMENT, () -> x.packet(number));
        }
        x.begin();
        x.next();
        x.clear();
        for (int what = -1; what <= 5; what++) {
            int number = what;
            due("cleared, " + what, ELEMENT, () -> x.packet(number));
        }
    }

    private static void packetWhenNoneCame() {
        PacketOrder x = four();
        PacketOrder none = four();
        none.change(1, 2, 0, 1, 1, 0);
        x.begin();
        x.skip(0);
        none.begin();
        none.next();
        none.skip(MOST);
        for (int what = 0; what <= 4; what++) {
            int number = what;
            due("none yet, " + what, ELEMENT, () -> x.packet(number));
            due("none at all, " + what, ELEMENT, () -> none.packet(number));
        }
        x.next();
        due("one", 0, () -> x.packet(3));
    }

    private static void noSuchWhat() {
        PacketOrder x = four();
        x.begin();
        x.next();
        for (int bad : new int[] {-1, 5, -2, 6, LEAST, MOST}) {
            due("what " + bad, ELEMENT, () -> x.packet(bad));
        }
        for (int what = 0; what <= 4; what++) {
            int number = what;
            due("what " + what, 0, () -> x.packet(number));
        }
    }

    private static void came() {
        PacketOrder x = four();
        x.component(1, 1, 1);
        x.layers(3, 2);
        x.begin();
        int[][] places = {{0, 0, 0}, {1, 0, 0}, {0, 0, 1}, {0, 0, 2}, {0, 0, 3}, {1, 1, 0}};
        for (int taken = 0; taken <= 18; taken++) {
            for (int i = 0; i < places.length; i++) {
                int[] at = places[i];
                int want = Math.max(0, Math.min(3, taken - 3 * i));
                due("came of place " + i + " behind " + taken, want, () -> x.came(at[0], at[1], at[2]));
            }
            due("one more behind " + taken, taken < 18, x::next);
        }
        due("all of the last", 3, () -> x.came(1, 1, 0));
        PacketOrder most = new PacketOrder();
        most.tile(0, 0, 1, 1);
        most.component(1, 1, 0);
        most.layers(255, 0);
        most.begin();
        most.skip(254);
        due("254", 254, () -> most.came(0, 0, 0));
        most.skip(9);
        due("255", 255, () -> most.came(0, 0, 0));
        most.begin();
        due("in the new sequence", 0, () -> most.came(0, 0, 0));
        cameOfEach();
    }

    /** Of each precinct as many as were seen to come, with several precincts on each level of each component. */
    private static void cameOfEach() {
        int[][] counts = {{2, 4, 4}, {4}, {1, 3}, {2, 1, 2}};
        for (int order = 0; order < 5; order++) {
            PacketOrder x = severalLevels();
            x.layers(2, order);
            due("packets", 2 * 23, x::begin);
            int[][][] seen = new int[4][3][4];
            for (int i = 0; i < 46; i++) {
                x.next();
                seen[x.packet(2)][x.packet(1)][x.packet(3)]++;
                if (i % 9 == 4 || i == 45) {
                    sameAsSeen("order " + order + ", packet " + i, x, counts, seen);
                }
            }
        }
    }

    private static PacketOrder severalLevels() {
        PacketOrder x = new PacketOrder();
        x.tile(0, 0, 8, 6);
        for (int n : new int[] {2, 0, 1, 2}) {
            x.component(1, 1, n);
        }
        x.precincts(0, 0, 0, 1);
        x.precincts(0, 1, 1, 1);
        x.precincts(0, 2, 2, 2);
        x.precincts(1, 0, 1, 15);
        x.precincts(2, 1, 15, 1);
        x.precincts(3, 0, 0, 15);
        x.precincts(3, 2, 2, 15);
        return x;
    }

    private static void sameAsSeen(String name, PacketOrder x, int[][] counts, int[][][] seen) {
        for (int c = 0; c < counts.length; c++) {
            for (int r = 0; r < counts[c].length; r++) {
                for (int p = 0; p < counts[c][r]; p++) {
                    int[] at = {c, r, p};
                    due(name + ": " + c + ", " + r + ", " + p, seen[c][r][p], () -> x.came(at[0], at[1], at[2]));
                }
            }
        }
    }

    private static void cameWithoutSequence() {
        due("a new one", ELEMENT, () -> new PacketOrder().came(0, 0, 0));
        PacketOrder x = four();
        due("told, not begun", ELEMENT, () -> x.came(0, 0, 0));
        x.begin();
        due("begun", 0, () -> x.came(0, 0, 0));
        x.skip(MOST);
        due("at the end", 1, () -> x.came(0, 0, 0));
        x.layers(1, 1);
        due("told again", ELEMENT, () -> x.came(0, 0, 0));
    }

    private static void noSuchPrecinct() {
        PacketOrder x = four();
        x.component(1, 1, 2);
        x.component(5, 5, 32);
        x.precincts(1, 2, 1, 2);
        x.begin();
        x.skip(MOST);
        for (int bad : new int[] {-1, 3, 16, LEAST, MOST}) {
            due("component " + bad, ELEMENT, () -> x.came(bad, 0, 0));
        }
        int[] levels = {0, 2, 32};
        for (int c = 0; c < 3; c++) {
            int number = c;
            for (int bad : new int[] {-1, levels[c] + 1, 33, LEAST, MOST}) {
                due("level " + bad + " of " + c, ELEMENT, () -> x.came(number, bad, 0));
            }
            due("the last level of " + c, 1, () -> x.came(number, levels[number], 0));
        }
        int[][] counts = {{0, 0, 4}, {1, 0, 1}, {1, 1, 1}, {1, 2, 2}, {2, 0, 1}, {2, 32, 1}};
        for (int[] level : counts) {
            for (int bad : new int[] {-1, level[2], level[2] + 1, 4096, LEAST, MOST}) {
                due("precinct " + bad + " of level " + level[1] + " of " + level[0], ELEMENT,
                        () -> x.came(level[0], level[1], bad));
            }
            due("the last precinct", 1, () -> x.came(level[0], level[1], level[2] - 1));
        }
        x.tile(1, 0, 4, 4);
        x.begin();
        due("an empty level", ELEMENT, () -> x.came(2, 32, 0));
        due("an empty level 0", ELEMENT, () -> x.came(2, 0, 0));
    }
}
