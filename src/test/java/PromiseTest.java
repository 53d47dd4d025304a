import java.lang.reflect.Field;
import java.lang.reflect.Method;
import java.lang.reflect.Modifier;
import java.util.Arrays;
import java.util.Set;
import java.util.TreeSet;

/** Each promise by itself: ordinary inputs, the edges that the document names, and wrong inputs. */
public final class PromiseTest extends Checks {
    public static void main(String[] args) {
        face();
        newObject();
        tile();
        component();
        precincts();
        layers();
        change();
        clear();
        begin();
        beginAtTheLimit();
        next();
        skip();
        packet();
        came();
        places();
        emptyLevels();
        orders();
        ordersOfAllComponents();
        changesInTurn();
        whatEndsASequence();
        whatLeavesASequence();
        largestSequences();
        end();
    }

    private static final String[] FACE = {
        "public void PacketOrder.tile(int,int,int,int) throws IllegalArgumentException",
        "public int PacketOrder.component(int,int,int) throws IllegalArgumentException,IllegalStateException",
        "public void PacketOrder.precincts(int,int,int,int) throws NoSuchElementException,IllegalArgumentException",
        "public void PacketOrder.layers(int,int) throws IllegalArgumentException",
        "public int PacketOrder.change(int,int,int,int,int,int) throws IllegalArgumentException,IllegalStateException",
        "public void PacketOrder.clear()",
        "public int PacketOrder.begin() throws IllegalStateException,UnsupportedOperationException",
        "public boolean PacketOrder.next() throws IllegalStateException",
        "public int PacketOrder.skip(int) throws IllegalArgumentException,IllegalStateException",
        "public int PacketOrder.packet(int) throws NoSuchElementException",
        "public int PacketOrder.came(int,int,int) throws NoSuchElementException",
    };

    private static void face() {
        Set<String> methods = new TreeSet<>();
        for (Method method : PacketOrder.class.getDeclaredMethods()) {
            if (!Modifier.isPrivate(method.getModifiers())) {
                methods.add(method.toString().replace("java.lang.", "").replace("java.util.", ""));
            }
        }
        due("the face", new TreeSet<>(Arrays.asList(FACE)), () -> methods);
        due("the constructor", "[public PacketOrder()]",
                () -> Arrays.toString(PacketOrder.class.getDeclaredConstructors()));
        due("the class", "public final", () -> Modifier.toString(PacketOrder.class.getModifiers()));
        for (Field field : PacketOrder.class.getDeclaredFields()) {
            due("private: " + field.getName(), true, () -> Modifier.isPrivate(field.getModifiers()));
        }
        for (Class<?> inside : PacketOrder.class.getDeclaredClasses()) {
            int modifiers = inside.getModifiers();
            due("static: " + inside.getName(), true, () -> Modifier.isStatic(modifiers));
            due("hidden: " + inside.getName(), false,
                    () -> Modifier.isPublic(modifiers) || Modifier.isProtected(modifiers));
        }
    }

    private static void newObject() {
        PacketOrder x = new PacketOrder();
        due("1 begin", STATE, x::begin);
        due("1 next", STATE, x::next);
        due("1 skip", STATE, () -> x.skip(0));
        due("1 packet", ELEMENT, () -> x.packet(0));
        due("1 came", ELEMENT, () -> x.came(0, 0, 0));
        refused("1 precincts", ELEMENT, () -> x.precincts(0, 0, 1, 1));
        done("1 clear", x::clear);
        due("1 first component", 0, () -> x.component(1, 1, 1));
        due("1 begin without a tile", STATE, x::begin);
        due("1 second component", 1, () -> x.component(1, 1, 1));
        x.tile(0, 0, 8, 8);
        x.precincts(0, 1, 2, 2);
        due("1 begin with one layer", 7, x::begin);
        due("1 order 0", "0.0.0.0 0.0.1.0 0.1.0.0 0.1.0.1 0.1.0.2 0.1.0.3 0.1.1.0", () -> packets(x, 9));
        due("1 change 0", 0, () -> x.packet(4));
        due("1 first change", 1, () -> x.change(0, 1, 0, 1, 1, 0));
    }

    private static void tile() {
        PacketOrder x = new PacketOrder();
        x.component(1, 1, 0);
        refused("2 empty in x", ARGUMENT, () -> x.tile(5, 0, 5, 9));
        refused("2 empty in y", ARGUMENT, () -> x.tile(0, 5, 9, 5));
        refused("2 turned in x", ARGUMENT, () -> x.tile(6, 0, 5, 9));
        refused("2 turned in y", ARGUMENT, () -> x.tile(0, 6, 9, 5));
        refused("2 x0 below 0", ARGUMENT, () -> x.tile(-1, 0, 5, 5));
        refused("2 y0 below 0", ARGUMENT, () -> x.tile(0, -1, 5, 5));
        refused("2 x1 above", ARGUMENT, () -> x.tile(0, 0, 32768, 5));
        refused("2 y1 above", ARGUMENT, () -> x.tile(0, 0, 5, 32768));
        refused("2 all far out", ARGUMENT, () -> x.tile(LEAST, LEAST, MOST, MOST));
        due("2 still no tile", STATE, x::begin);
        done("2 largest", () -> x.tile(0, 0, 32767, 32767));
        due("2 begin with the largest", 1, x::begin);
        done("2 least", () -> x.tile(32766, 32766, 32767, 32767));
        due("2 begin with the least", 1, x::begin);
        x.precincts(0, 0, 0, 0);
        x.tile(3, 5, 10, 8);
        due("2 points", 21, x::begin);
        x.tile(0, 0, 2, 5);
        due("2 another tile", 10, x::begin);
        refused("2 a wrong tile", ARGUMENT, () -> x.tile(0, 0, 0, 0));
        due("2 the tile stays", 10, x::begin);
    }

    private static void component() {
        PacketOrder x = new PacketOrder();
        x.tile(0, 0, 255, 255);
        for (int bad : new int[] {0, 256, -1, LEAST, MOST}) {
            due("3 dx", ARGUMENT, () -> x.component(bad, 1, 0));
            due("3 dy", ARGUMENT, () -> x.component(1, bad, 0));
        }
        for (int bad : new int[] {-1, 33, LEAST, MOST}) {
            due("3 n", ARGUMENT, () -> x.component(1, 1, bad));
        }
        due("3 still none", STATE, x::begin);
        due("3 the largest", 0, () -> x.component(255, 255, 32));
        due("3 one point on every level", 33, x::begin);
        due("3 exponents 15", 33, () -> x.skip(MOST));
        for (int c = 1; c < 16; c++) {
            int number = c;
            due("3 number", number, () -> x.component(1, 255, 0));
        }
        due("3 seventeenth", STATE, () -> x.component(1, 1, 0));
        due("3 seventeenth and wrong", ARGUMENT, () -> x.component(0, 1, 0));
        due("3 packets of all", 33 + 15, x::begin);
        PacketOrder wide = new PacketOrder();
        wide.tile(0, 0, 10, 12);
        wide.component(3, 5, 0);
        wide.precincts(0, 0, 0, 0);
        due("3 steps divide upwards", 4 * 3, wide::begin);
        wide.tile(1, 1, 10, 12);
        due("3 both ends upwards", 3 * 2, wide::begin);
    }

    private static void precincts() {
        PacketOrder x = new PacketOrder();
        x.tile(0, 0, 16, 8);
        x.component(1, 1, 1);
        refused("4 component below", ELEMENT, () -> x.precincts(-1, 0, 1, 1));
        refused("4 component above", ELEMENT, () -> x.precincts(1, 0, 1, 1));
        refused("4 level below", ELEMENT, () -> x.precincts(0, -1, 1, 1));
        refused("4 level above", ELEMENT, () -> x.precincts(0, 2, 1, 1));
        refused("4 no level and wrong", ELEMENT, () -> x.precincts(0, 2, 16, 16));
        refused("4 far out", ELEMENT, () -> x.precincts(MOST, LEAST, MOST, MOST));
        for (int bad : new int[] {-1, 16, LEAST, MOST}) {
            refused("4 pw", ARGUMENT, () -> x.precincts(0, 0, bad, 1));
            refused("4 ph", ARGUMENT, () -> x.precincts(0, 0, 1, bad));
        }
        refused("4 pw 0 above level 0", ARGUMENT, () -> x.precincts(0, 1, 0, 1));
        refused("4 ph 0 above level 0", ARGUMENT, () -> x.precincts(0, 1, 1, 0));
        due("4 nothing changed", 2, x::begin);
        done("4 zeros at level 0", () -> x.precincts(0, 0, 0, 0));
        due("4 a point each", 8 * 4 + 1, x::begin);
        done("4 ones at level 1", () -> x.precincts(0, 1, 1, 1));
        due("4 squares of 2", 8 * 4 + 8 * 4, x::begin);
        done("4 unlike", () -> x.precincts(0, 1, 3, 2));
        due("4 8 wide, 4 high", 8 * 4 + 2 * 2, x::begin);
        done("4 largest", () -> x.precincts(0, 1, 15, 15));
        due("4 one again", 8 * 4 + 1, x::begin);
        x.tile(7, 3, 9, 5);
        x.precincts(0, 1, 3, 2);
        due("4 over the borders of the plane", 1 + 4, x::begin);
    }

    private static void layers() {
        PacketOrder x = four();
        for (int bad : new int[] {0, 256, -1, LEAST, MOST}) {
            refused("5 n", ARGUMENT, () -> x.layers(bad, 0));
        }
        for (int bad : new int[] {-1, 5, LEAST, MOST}) {
            refused("5 order", ARGUMENT, () -> x.layers(7, bad));
        }
        due("5 still one", 4, x::begin);
        done("5 most", () -> x.layers(255, 4));
        due("5 packets", 4 * 255, x::begin);
        x.skip(255);
        due("5 order 4", "254.0.0.0", () -> lastPacket(x));
        done("5 two", () -> x.layers(2, 0));
        due("5 fewer", 8, x::begin);
        due("5 order 0", "0.0.0.0 0.0.0.1 0.0.0.2 0.0.0.3 1.0.0.0 1.0.0.1 1.0.0.2 1.0.0.3", () -> packets(x, 9));
    }

    private static void change() {
        PacketOrder x = four();
        int[] good = {0, 33, 0, 16, 255, 4};
        int[][] bad = {
            {-1, 1, 0, 1, 1, 0}, {33, 34, 0, 1, 1, 0}, {33, 33, 0, 1, 1, 0}, {1, 1, 0, 1, 1, 0}, {2, 1, 0, 1, 1, 0},
            {0, 34, 0, 1, 1, 0}, {LEAST, MOST, 0, 1, 1, 0}, {0, 1, -1, 1, 1, 0}, {0, 1, 16, 17, 1, 0},
            {0, 1, 16, 16, 1, 0}, {0, 1, 1, 1, 1, 0}, {0, 1, 2, 1, 1, 0}, {0, 1, 0, 17, 1, 0},
            {0, 1, LEAST, MOST, 1, 0}, {0, 1, 0, 1, 0, 0}, {0, 1, 0, 1, 256, 0}, {0, 1, 0, 1, -1, 0},
            {0, 1, 0, 1, MOST, 0}, {0, 1, 0, 1, 1, -1}, {0, 1, 0, 1, 1, 5}, {0, 1, 0, 1, 1, MOST},
        };
        refuseChanges(x, bad);
        for (int i = 1; i <= 32; i++) {
            int count = i;
            due("6 how many", count, () -> tellChange(x, count == 32 ? good : new int[] {32, 33, 15, 16, 1, 0}));
        }
        due("6 one too many", STATE, () -> tellChange(x, good));
        refuseChanges(x, bad);
        due("6 all packets", 4, x::begin);
        due("6 those of the last one", 4, () -> x.skip(9));
        due("6 its number", 31, () -> x.packet(4));
    }

    private static void refuseChanges(PacketOrder x, int[][] bad) {
        for (int[] a : bad) {
            due("6 change" + Arrays.toString(a), ARGUMENT, () -> tellChange(x, a));
        }
    }

    private static void clear() {
        PacketOrder x = four();
        x.layers(2, 2);
        x.change(0, 1, 0, 1, 1, 0);
        x.change(1, 2, 0, 1, 1, 0);
        x.begin();
        due("7 before", 4, () -> x.skip(99));
        done("7 clear", x::clear);
        x.begin();
        due("7 the own order", "0.0.0.0 1.0.0.0 0.0.0.1 1.0.0.1 0.0.0.2 1.0.0.2 0.0.0.3 1.0.0.3", () -> packets(x, 9));
        due("7 from one again", 1, () -> x.change(0, 1, 0, 1, 1, 0));
    }

    private static void begin() {
        PacketOrder x = new PacketOrder();
        due("8 nothing", STATE, x::begin);
        x.tile(0, 0, 4, 4);
        due("8 no component", STATE, x::begin);
        PacketOrder y = new PacketOrder();
        y.component(1, 1, 0);
        due("8 no tile", STATE, y::begin);
        PacketOrder z = four();
        z.layers(3, 0);
        z.change(5, 6, 0, 1, 1, 0);
        due("8 all, though none comes", 12, z::begin);
        due("8 none comes", false, z::next);
        z.clear();
        z.begin();
        due("8 five", 5, () -> z.skip(5));
        due("8 again", 12, z::begin);
        due("8 ahead of the first", ELEMENT, () -> z.packet(0));
        due("8 nothing came", 0, () -> z.came(0, 0, 0));
        due("8 the first again", "0.0.0.0", () -> packets(z, 1));
    }

    private static void beginAtTheLimit() {
        PacketOrder x = new PacketOrder();
        x.component(1, 1, 0);
        x.precincts(0, 0, 0, 0);
        x.tile(0, 0, 64, 64);
        due("8 4096 precincts", 4096, x::begin);
        x.tile(0, 0, 17, 241);
        due("8 4097 precincts", UNSUPPORTED, x::begin);
        due("8 no sequence", STATE, x::next);
        x.tile(0, 0, 64, 64);
        x.layers(255, 0);
        due("8 4096 with layers", 4096 * 255, x::begin);
        x.component(1, 1, 0);
        due("8 4096 and one", UNSUPPORTED, x::begin);
        x.tile(0, 0, 32767, 32767);
        for (int c = 2; c < 16; c++) {
            x.component(1, 1, 0);
            x.precincts(c, 0, 0, 0);
        }
        due("8 more than an int holds", UNSUPPORTED, x::begin);
    }

    private static void next() {
        PacketOrder x = four();
        due("9 no sequence", STATE, x::next);
        x.begin();
        for (int i = 0; i < 4; i++) {
            due("9 next", true, x::next);
        }
        due("9 no more", false, x::next);
        due("9 no more again", false, x::next);
        due("9 the last one stays", "0.0.0.3", () -> lastPacket(x));
    }

    private static void skip() {
        PacketOrder x = four();
        due("10 no sequence", STATE, () -> x.skip(0));
        due("10 no sequence and wrong", ARGUMENT, () -> x.skip(-1));
        x.layers(3, 1);
        x.begin();
        due("10 below 0", ARGUMENT, () -> x.skip(-1));
        due("10 far below 0", ARGUMENT, () -> x.skip(LEAST));
        due("10 none", 0, () -> x.skip(0));
        due("10 none came", ELEMENT, () -> x.packet(0));
        due("10 one", 1, () -> x.skip(1));
        due("10 the first", "0.0.0.0", () -> lastPacket(x));
        due("10 six", 6, () -> x.skip(6));
        due("10 the seventh", "1.0.0.2", () -> lastPacket(x));
        due("10 none again", 0, () -> x.skip(0));
        due("10 the seventh still", "1.0.0.2", () -> lastPacket(x));
        due("10 next", "1.0.0.3 2.0.0.0", () -> packets(x, 2));
        due("10 the rest", 3, () -> x.skip(MOST));
        due("10 the last", "2.0.0.3", () -> lastPacket(x));
        due("10 nothing left", 0, () -> x.skip(1));
        due("10 next of nothing", false, x::next);
    }

    private static void packet() {
        PacketOrder x = new PacketOrder();
        x.tile(0, 0, 8, 8);
        x.component(1, 1, 0);
        x.component(1, 1, 2);
        x.precincts(1, 2, 1, 2);
        x.layers(4, 0);
        x.change(0, 1, 0, 1, 1, 0);
        x.change(2, 3, 1, 2, 4, 0);
        x.change(0, 3, 0, 1, 1, 0);
        due("11 no sequence", ELEMENT, () -> x.packet(0));
        x.begin();
        due("11 none came", ELEMENT, () -> x.packet(0));
        x.skip(1 + 2 * 8 + 6);
        due("11 layer", 2, () -> x.packet(0));
        due("11 level", 2, () -> x.packet(1));
        due("11 component", 1, () -> x.packet(2));
        due("11 precinct", 5, () -> x.packet(3));
        due("11 change", 1, () -> x.packet(4));
        for (int bad : new int[] {-1, 5, LEAST, MOST}) {
            due("11 no such what", ELEMENT, () -> x.packet(bad));
        }
        x.skip(MOST);
        due("11 end", false, x::next);
        due("11 the change that the last one came by", 1, () -> x.packet(4));
        x.clear();
        due("11 no sequence any more", ELEMENT, () -> x.packet(0));
    }

    private static void came() {
        PacketOrder x = four();
        x.component(1, 1, 1);
        x.layers(3, 2);
        due("12 no sequence", ELEMENT, () -> x.came(0, 0, 0));
        x.begin();
        due("12 none", 0, () -> x.came(0, 0, 0));
        x.skip(5);
        due("12 all of the first", 3, () -> x.came(0, 0, 0));
        due("12 two of the second", 2, () -> x.came(1, 0, 0));
        due("12 none of the third", 0, () -> x.came(0, 0, 1));
        x.skip(MOST);
        due("12 all", 3, () -> x.came(0, 0, 3));
        due("12 the upper level", 3, () -> x.came(1, 1, 0));
        due("12 component below", ELEMENT, () -> x.came(-1, 0, 0));
        due("12 component above", ELEMENT, () -> x.came(2, 0, 0));
        due("12 level below", ELEMENT, () -> x.came(0, -1, 0));
        due("12 level above", ELEMENT, () -> x.came(0, 1, 0));
        due("12 precinct below", ELEMENT, () -> x.came(0, 0, -1));
        due("12 precinct above", ELEMENT, () -> x.came(0, 0, 4));
        due("12 far out", ELEMENT, () -> x.came(MOST, LEAST, MOST));
        due("12 far out precinct", ELEMENT, () -> x.came(0, 0, MOST));
    }

    /** Where a place begins before the tile it counts as the tile's edge. */
    private static void places() {
        PacketOrder x = new PacketOrder();
        x.tile(5, 5, 13, 13);
        x.component(1, 1, 1);
        x.component(3, 3, 0);
        x.precincts(0, 0, 1, 1);
        x.precincts(0, 1, 2, 2);
        x.precincts(1, 0, 1, 1);
        x.layers(1, 3);
        due("3 columns and rows", 9 + 9 + 4, x::begin);
        // Component 0 at 5, 8, 12 on both levels; component 1 has columns 1 and 2: at 6 and 12.
        due("places by y and x", "0.0.0.0 0.1.0.0 0.0.0.1 0.1.0.1 0.0.0.2 0.1.0.2 0.0.1.0 0.0.1.1"
                + " 0.0.0.3 0.1.0.3 0.0.0.4 0.1.0.4 0.0.0.5 0.1.0.5"
                + " 0.0.0.6 0.1.0.6 0.0.1.2 0.0.0.7 0.1.0.7 0.0.0.8 0.1.0.8 0.0.1.3", () -> packets(x, 99));
    }

    private static void emptyLevels() {
        PacketOrder x = new PacketOrder();
        x.tile(7, 0, 8, 8);
        x.component(8, 1, 0);
        due("empty in x alone", 0, x::begin);
        due("no packet", false, x::next);
        due("none to skip", 0, () -> x.skip(MOST));
        due("none came", ELEMENT, () -> x.packet(0));
        due("no precinct", ELEMENT, () -> x.came(0, 0, 0));
        x.component(1, 1, 3);
        due("levels 0 to 2 begin behind their end", 1, x::begin);
        due("level 3", "0.3.1.0", () -> packets(x, 9));
        x.tile(0, 7, 8, 8);
        x.component(1, 8, 0);
        due("empty in y alone", 1 + 1, x::begin);
        x.tile(0, 0, 1, 1);
        x.component(1, 1, 32);
        due("halved 32 times", 1 + 4 + 1 + 33, x::begin);
    }

    private static void orders() {
        String[] want = {
            "0.0.0.0 0.0.1.0 0.1.0.0 0.1.0.1 0.1.1.0 1.0.0.0 1.0.1.0 1.1.0.0 1.1.0.1 1.1.1.0",
            "0.0.0.0 0.0.1.0 1.0.0.0 1.0.1.0 0.1.0.0 0.1.0.1 0.1.1.0 1.1.0.0 1.1.0.1 1.1.1.0",
            "0.0.0.0 1.0.0.0 0.0.1.0 1.0.1.0 0.1.0.0 1.1.0.0 0.1.1.0 1.1.1.0 0.1.0.1 1.1.0.1",
            "0.0.0.0 1.0.0.0 0.1.0.0 1.1.0.0 0.0.1.0 1.0.1.0 0.1.1.0 1.1.1.0 0.1.0.1 1.1.0.1",
            "0.0.0.0 1.0.0.0 0.1.0.0 1.1.0.0 0.1.0.1 1.1.0.1 0.0.1.0 1.0.1.0 0.1.1.0 1.1.1.0",
        };
        for (int order = 0; order < want.length; order++) {
            int number = order;
            PacketOrder x = twoComponents();
            x.layers(2, order);
            due("packets", 10, x::begin);
            due("order " + order, want[number], () -> packets(x, 99));
            x.layers(2, (order + 1) % 5);
            x.change(0, 33, 0, 16, 255, order);
            x.begin();
            due("order " + order + " of a change", want[number], () -> packets(x, 99));
        }
    }

    private static PacketOrder twoComponents() {
        PacketOrder x = new PacketOrder();
        x.tile(0, 0, 8, 4);
        x.component(1, 1, 1);
        x.component(1, 1, 1);
        x.precincts(0, 1, 2, 2);
        return x;
    }

    /** Sixteen components with all their levels at one place: only the order tells them apart. */
    private static void ordersOfAllComponents() {
        for (int order = 0; order < 5; order++) {
            boolean levelsFirst = order < 3;
            PacketOrder x = new PacketOrder();
            x.tile(0, 0, 1, 1);
            for (int c = 0; c < 16; c++) {
                x.component(1, 1, 32);
            }
            x.layers(1, order);
            due("a packet each", 16 * 33, x::begin);
            for (int i = 4; i < 16 * 33; i += 5) {
                int number = i;
                x.skip(5);
                due("level " + i + " in order " + order, levelsFirst ? number / 16 : number % 33, () -> x.packet(1));
                due("component " + i + " in order " + order, levelsFirst ? number % 16 : number / 33,
                        () -> x.packet(2));
            }
        }
    }

    private static void changesInTurn() {
        PacketOrder x = twoComponents();
        x.layers(3, 0);
        x.change(1, 2, 0, 1, 2, 2);
        x.change(0, 2, 0, 1, 1, 0);
        x.change(0, 33, 0, 16, 3, 0);
        due("all of them", 15, x::begin);
        due("each once", "0.1.0.0 1.1.0.0 0.1.0.1 1.1.0.1 0.0.0.0 0.0.1.0 0.1.1.0 1.0.0.0 1.0.1.0 1.1.1.0"
                + " 2.0.0.0 2.0.1.0 2.1.0.0 2.1.0.1 2.1.1.0", () -> packets(x, 99));
        x.begin();
        due("by which change", "0 0 0 0 1 2 2 2 2 2 2 2 2 2 2", () -> numbers(x, 4, 99));
    }

    private static void whatEndsASequence() {
        Telling[] endings = {
            x -> x.tile(0, 0, 4, 4), x -> x.component(1, 1, 0), x -> x.precincts(0, 0, 1, 1), x -> x.layers(1, 0),
            x -> x.change(0, 1, 0, 1, 1, 0), x -> x.clear(),
        };
        for (int i = 0; i < endings.length; i++) {
            PacketOrder x = four();
            x.begin();
            x.next();
            endings[i].run(x);
            due("next behind ending " + i, STATE, x::next);
            due("skip behind ending " + i, STATE, () -> x.skip(1));
            due("packet behind ending " + i, ELEMENT, () -> x.packet(0));
            due("came behind ending " + i, ELEMENT, () -> x.came(0, 0, 0));
        }
    }

    private static void whatLeavesASequence() {
        PacketOrder x = four();
        x.begin();
        x.skip(2);
        refused("wrong tile", ARGUMENT, () -> x.tile(0, 0, 0, 0));
        refused("wrong component", ARGUMENT, () -> x.component(0, 0, 0));
        refused("wrong level", ELEMENT, () -> x.precincts(0, 1, 1, 1));
        refused("wrong exponents", ARGUMENT, () -> x.precincts(0, 0, 16, 1));
        refused("wrong layers", ARGUMENT, () -> x.layers(0, 0));
        refused("wrong change", ARGUMENT, () -> x.change(0, 0, 0, 0, 0, 0));
        refused("wrong skip", ARGUMENT, () -> x.skip(-1));
        refused("wrong packet", ELEMENT, () -> x.packet(5));
        refused("wrong precinct", ELEMENT, () -> x.came(0, 0, 4));
        due("the second still", "0.0.0.1", () -> lastPacket(x));
        due("and on", "0.0.0.2 0.0.0.3", () -> packets(x, 9));
        PacketOrder full = four();
        for (int i = 0; i < 15; i++) {
            full.component(1, 1, 0);
        }
        for (int i = 0; i < 32; i++) {
            full.change(0, 1, 0, 1, 1, 0);
        }
        full.begin();
        due("one component too many", STATE, () -> full.component(1, 1, 0));
        due("one change too many", STATE, () -> full.change(0, 1, 0, 1, 1, 0));
        due("the sequence stays", true, full::next);
    }

    private static void largestSequences() {
        PacketOrder x = new PacketOrder();
        x.tile(0, 0, 64, 64);
        x.component(1, 1, 0);
        x.precincts(0, 0, 0, 0);
        for (int order = 0; order < 5; order++) {
            boolean byLayers = order < 2;
            x.layers(255, order);
            x.begin();
            due("ahead of the last", 4096 * 255 - 1, () -> x.skip(4096 * 255 - 1));
            due("the last but one", byLayers ? "254.0.0.4094" : "253.0.0.4095", () -> lastPacket(x));
            due("the last one", true, x::next);
            due("the last", "254.0.0.4095", () -> lastPacket(x));
            due("the end", false, x::next);
            x.begin();
            x.skip(4096 * 100 + 300);
            due("midway", byLayers ? "100.0.0.299" : "114.0.0.1607", () -> lastPacket(x));
            due("all the rest", 4096 * 155 - 300, () -> x.skip(MOST));
        }
    }
}
