import java.util.ArrayList;
import java.util.Arrays;
import java.util.Comparator;
import java.util.List;
import java.util.NoSuchElementException;

/**
 * Long runs of calls, always the same ones, answered by the class and by a plain model that writes
 * out all packets and sorts them as the document says.
 */
public final class ModelTest extends Checks {
    private static final int RUNS = 3000;
    private static final int FAR_RUNS = 400;
    private static final int CALLS = 200;
    private static final int TELLING = 16;
    private static final int FAR_TELLING = 60;
    private static final int BEGIN = 6;
    private static final int[] ODD = {-1, 0, 1, 15, 16, 17, 32, 33, 34, 255, 256, 32767, 32768,
        Integer.MIN_VALUE, Integer.MAX_VALUE};

    private static final int[] SKIPS = {3, 10, 10, 40, 100, 2000};

    private static long seed = 1;
    // Of which kind the run is: large tiles and steps, many components, or all that the document allows.
    private static boolean wide = false;
    private static boolean many = false;
    private static boolean far = false;

    /** A fixed row of numbers, so that a failure comes again. */
    private static int below(int bound) {
        seed = seed * 6364136223846793005L + 1442695040888963407L;
        return (int) ((seed >>> 33) % bound);
    }

    /** Now and then a number that is out of bounds or at their edge. */
    private static int from(int least, int most) {
        return below(60) == 0 ? ODD[below(ODD.length)] : least + below(most - least + 1);
    }

    public static void main(String[] args) {
        int wrong = 0;
        long packets = 0;
        for (int run = 1; run <= RUNS + FAR_RUNS && wrong == 0; run++) {
            wide = run % 3 == 0;
            many = run % 5 == 0;
            far = run > RUNS;
            PacketOrder real = new PacketOrder();
            Model model = new Model();
            StringBuilder told = new StringBuilder();
            for (int call = 0; call < CALLS && wrong == 0; call++) {
                int kind = far ? chooseFarKind(call) : chooseKind(call);
                int[] a = far ? chooseFarCall(kind) : chooseCall(kind);
                String want = model.answer(a);
                String got = answer(real, a);
                packets += a[0] == 9 && !want.equals("NoSuchElementException") ? 1 : 0;
                told.append(NAMES[a[0]]).append(Arrays.toString(a)).append(" -> ").append(got).append('\n');
                if (!want.equals(got)) {
                    wrong++;
                    System.out.println("run " + run + ", due is " + want + " behind\n" + told);
                }
            }
        }
        System.out.println(wrong == 0 ? "all answers are as due, " + packets + " of them of packets"
                : "an answer is not as due");
        if (wrong != 0) {
            System.exit(1);
        }
    }

    private static final String[] NAMES = {"tile", "component", "precincts", "layers", "change", "clear", "begin",
        "next", "skip", "packet", "came"};

    /** First what there is told, then a sequence goes on, with a new one or something new now and then. */
    private static int chooseKind(int call) {
        if (call < TELLING) {
            return many && call > 4 ? 1 : below(5);
        }
        return call == TELLING ? BEGIN : chooseLaterKind();
    }

    /** Mostly components and their precincts, and a tile at the end, that may be small enough for them all. */
    private static int chooseFarKind(int call) {
        if (call < FAR_TELLING) {
            return call == FAR_TELLING - 1 ? 0 : oneOf(0, 1, 1, 2, 2, 2, 2, 2, 3, 4, 4, 4);
        }
        return call == FAR_TELLING ? BEGIN : chooseLaterKind();
    }

    private static int chooseLaterKind() {
        int chance = below(100);
        if (chance < 3) {
            return BEGIN;
        }
        return chance < 6 ? below(BEGIN) : BEGIN + 1 + below(4);
    }

    private static int[] chooseCall(int kind) {
        switch (kind) {
            case 0:
                int x = below(wide ? 20000 : 40);
                int y = below(wide ? 20000 : 40);
                int size = wide ? 12000 : 20;
                return new int[] {0, from(x, x), from(y, y), from(x + 1, x + size), from(y + 1, y + size)};
            case 1:
                int step = wide ? 255 : 4;
                return new int[] {1, from(1, step), from(1, step), from(0, below(10) == 0 ? 32 : 4)};
            case 2:
                int exponent = wide ? 11 : 4;
                return new int[] {2, from(0, 2), from(0, 4), from(1, exponent), from(1, exponent)};
            case 3:
                return new int[] {3, from(1, below(10) == 0 ? 255 : 5), from(0, 4)};
            case 4:
                int level = below(4);
                int component = below(many ? 12 : 3);
                return new int[] {4, from(level, level), from(level + 1, level + 4), from(component, component),
                    from(component + 1, component + 4), from(1, 6), from(0, 4)};
            case 8:
                return new int[] {8, from(0, SKIPS[below(SKIPS.length)])};
            case 9:
                return new int[] {9, from(0, 4)};
            case 10:
                return new int[] {10, from(0, many ? 12 : 3), from(0, 4), from(0, 8)};
            default:
                return new int[] {kind};
        }
    }

    private static int oneOf(int... numbers) {
        return numbers[below(numbers.length)];
    }

    private static int[] chooseFarTile() {
        int most = oneOf(40, 40, 600, 32767);
        int width = 1 + below(most);
        int height = 1 + below(most);
        int x = oneOf(0, 32767 - width, below(32768 - width));
        int y = oneOf(0, 32767 - height, below(32768 - height));
        return new int[] {0, from(x, x), from(y, y), from(x + width, x + width), from(y + height, y + height)};
    }

    private static int[] chooseFarChange() {
        if (below(3) == 0) {
            return new int[] {4, 0, 33, 0, 16, oneOf(1, 2, 254, 255, from(1, 255)), from(0, 4)};
        }
        int level = below(33);
        int component = below(16);
        return new int[] {4, from(level, level), from(level + 1, 33), from(component, component),
            from(component + 1, 16), oneOf(1, 2, 254, 255, from(1, 255)), from(0, 4)};
    }

    private static int chooseFarExponent() {
        return oneOf(from(0, 15), from(1, 5), from(8, 15));
    }

    private static int[] chooseFarCall(int kind) {
        switch (kind) {
            case 0:
                return chooseFarTile();
            case 1:
                return new int[] {1, oneOf(1, 1, 2, 3, 8, 254, 255, from(1, 255)),
                    oneOf(1, 1, 2, 5, 16, 254, 255, from(1, 255)), oneOf(0, 1, 2, 5, 14, 15, 16, 31, 32, from(0, 32))};
            case 2:
                return new int[] {2, from(0, 15), oneOf(from(0, 4), from(0, 32)), chooseFarExponent(),
                    chooseFarExponent()};
            case 3:
                return new int[] {3, oneOf(1, 2, 254, 255, from(1, 255)), from(0, 4)};
            case 4:
                return chooseFarChange();
            case 8:
                return new int[] {8, oneOf(0, 1, below(100), below(1000), below(20000), below(500000), from(0, 50))};
            case 10:
                return new int[] {10, from(0, 15), oneOf(from(0, 4), from(0, 32)), oneOf(0, from(0, 8), from(0, 300))};
            default:
                return chooseCall(kind);
        }
    }

    private static String answer(PacketOrder x, int[] a) {
        try {
            switch (a[0]) {
                case 0:
                    x.tile(a[1], a[2], a[3], a[4]);
                    return "done";
                case 1:
                    return "" + x.component(a[1], a[2], a[3]);
                case 2:
                    x.precincts(a[1], a[2], a[3], a[4]);
                    return "done";
                case 3:
                    x.layers(a[1], a[2]);
                    return "done";
                case 4:
                    return "" + x.change(a[1], a[2], a[3], a[4], a[5], a[6]);
                case 5:
                    x.clear();
                    return "done";
                case 6:
                    return "" + x.begin();
                case 7:
                    return "" + x.next();
                case 8:
                    return "" + x.skip(a[1]);
                case 9:
                    return "" + x.packet(a[1]);
                default:
                    return "" + x.came(a[1], a[2], a[3]);
            }
        } catch (RuntimeException e) {
            return e.getClass().getSimpleName();
        }
    }

    private record Packet(int layer, int level, int component, int precinct, long x, long y, int[] change) {
    }

    private static final class Model {
        private int[] tile;
        private final List<int[]> components = new ArrayList<>();
        private final List<int[][]> exponents = new ArrayList<>();
        private int layers = 1;
        private int order = 0;
        private final List<int[]> changes = new ArrayList<>();
        private List<Packet> sequence;
        private List<Packet> all;
        private int at;

        String answer(int[] a) {
            try {
                return answerOrThrow(a);
            } catch (RuntimeException e) {
                return e.getClass().getSimpleName();
            }
        }

        private static void must(boolean holds, RuntimeException otherwise) {
            if (!holds) {
                throw otherwise;
            }
        }

        private static boolean in(int value, int least, int most) {
            return least <= value && value <= most;
        }

        private String answerOrThrow(int[] a) {
            switch (a[0]) {
                case 0:
                    must(a[1] >= 0 && a[2] >= 0 && a[3] <= 32767 && a[4] <= 32767 && a[1] < a[3] && a[2] < a[4],
                            new IllegalArgumentException());
                    tile = a;
                    sequence = null;
                    return "done";
                case 1:
                    return component(a);
                case 2:
                    must(hasLevel(a[1], a[2]), new NoSuchElementException());
                    int least = a[2] == 0 ? 0 : 1;
                    must(in(a[3], least, 15) && in(a[4], least, 15), new IllegalArgumentException());
                    exponents.get(a[1])[a[2]] = new int[] {a[3], a[4]};
                    sequence = null;
                    return "done";
                case 3:
                    must(in(a[1], 1, 255) && in(a[2], 0, 4), new IllegalArgumentException());
                    layers = a[1];
                    order = a[2];
                    sequence = null;
                    return "done";
                case 4:
                    must(in(a[1], 0, 32) && in(a[2], 0, 33) && a[1] < a[2] && in(a[3], 0, 15) && in(a[4], 0, 16)
                            && a[3] < a[4] && in(a[5], 1, 255) && in(a[6], 0, 4), new IllegalArgumentException());
                    must(changes.size() < 32, new IllegalStateException());
                    changes.add(a);
                    sequence = null;
                    return "" + changes.size();
                case 5:
                    changes.clear();
                    sequence = null;
                    return "done";
                default:
                    return answerOfSequence(a);
            }
        }

        private String component(int[] a) {
            must(in(a[1], 1, 255) && in(a[2], 1, 255) && in(a[3], 0, 32), new IllegalArgumentException());
            must(components.size() < 16, new IllegalStateException());
            components.add(a);
            int[][] levels = new int[a[3] + 1][];
            Arrays.fill(levels, new int[] {15, 15});
            exponents.add(levels);
            sequence = null;
            return "" + (components.size() - 1);
        }

        private boolean hasLevel(int c, int r) {
            return in(c, 0, components.size() - 1) && in(r, 0, components.get(c)[3]);
        }

        private String answerOfSequence(int[] a) {
            switch (a[0]) {
                case 6:
                    must(tile != null && !components.isEmpty(), new IllegalStateException());
                    begin();
                    return "" + all.size();
                case 7:
                    must(sequence != null, new IllegalStateException());
                    boolean comes = at < sequence.size();
                    at += comes ? 1 : 0;
                    return "" + comes;
                case 8:
                    must(a[1] >= 0, new IllegalArgumentException());
                    must(sequence != null, new IllegalStateException());
                    int taken = Math.min(a[1], sequence.size() - at);
                    at += taken;
                    return "" + taken;
                case 9:
                    must(sequence != null && at > 0 && in(a[1], 0, 4), new NoSuchElementException());
                    Packet p = sequence.get(at - 1);
                    return "" + new int[] {p.layer, p.level, p.component, p.precinct, p.change[0]}[a[1]];
                default:
                    must(sequence != null, new NoSuchElementException());
                    must(all.stream().anyMatch(q -> isOf(q, a)), new NoSuchElementException());
                    return "" + sequence.subList(0, at).stream().filter(q -> isOf(q, a)).count();
            }
        }

        private static boolean isOf(Packet q, int[] a) {
            return q.component == a[1] && q.level == a[2] && q.precinct == a[3];
        }

        private void begin() {
            List<Packet> found = new ArrayList<>();
            long precincts = 0;
            for (int c = 0; c < components.size(); c++) {
                for (int r = 0; r <= components.get(c)[3]; r++) {
                    precincts += write(c, r, found);
                }
            }
            must(precincts <= 4096, new UnsupportedOperationException());
            all = found;
            sequence = new ArrayList<>();
            at = 0;
            if (changes.isEmpty()) {
                come(0, new int[] {4, 0, 33, 0, 16, 255, order});
            }
            for (int i = 0; i < changes.size(); i++) {
                come(i, changes.get(i));
            }
        }

        private static long up(long a, long divisor) {
            return a / divisor + (a % divisor == 0 ? 0 : 1);
        }

        /** Writes the packets of a level, unless there are too many, and answers its precincts. */
        private long write(int c, int r, List<Packet> found) {
            long dx = components.get(c)[1];
            long dy = components.get(c)[2];
            long power = 1L << components.get(c)[3] - r;
            long w = 1L << exponents.get(c)[r][0];
            long h = 1L << exponents.get(c)[r][1];
            long left = up(up(tile[1], dx), power);
            long top = up(up(tile[2], dy), power);
            long right = up(up(tile[3], dx), power);
            long bottom = up(up(tile[4], dy), power);
            if (left >= right || top >= bottom) {
                return 0;
            }
            long columns = (right - 1) / w - left / w + 1;
            long rows = (bottom - 1) / h - top / h + 1;
            if (columns * rows > 4096 || found.size() > 4096 * layers) {
                return columns * rows;
            }
            int precinct = 0;
            for (long j = top / h; j <= (bottom - 1) / h; j++) {
                for (long i = left / w; i <= (right - 1) / w; i++) {
                    for (int layer = 0; layer < layers; layer++) {
                        found.add(new Packet(layer, r, c, precinct, Math.max(tile[1], i * w * power * dx),
                                Math.max(tile[2], j * h * power * dy), new int[] {-1}));
                    }
                    precinct++;
                }
            }
            return columns * rows;
        }

        private void come(int number, int[] a) {
            List<Packet> coming = new ArrayList<>();
            for (Packet p : all) {
                boolean isOfChange = in(p.level, a[1], a[2] - 1) && in(p.component, a[3], a[4] - 1) && p.layer < a[5];
                if (isOfChange && p.change[0] < 0) {
                    p.change[0] = number;
                    coming.add(p);
                }
            }
            coming.sort(comparator(a[6]));
            sequence.addAll(coming);
        }

        private static Comparator<Packet> comparator(int order) {
            Comparator<Packet> layer = Comparator.comparingInt(Packet::layer);
            Comparator<Packet> level = Comparator.comparingInt(Packet::level);
            Comparator<Packet> component = Comparator.comparingInt(Packet::component);
            Comparator<Packet> precinct = Comparator.comparingInt(Packet::precinct);
            Comparator<Packet> place = Comparator.comparingLong(Packet::y).thenComparingLong(Packet::x);
            switch (order) {
                case 0:
                    return layer.thenComparing(level).thenComparing(component).thenComparing(precinct);
                case 1:
                    return level.thenComparing(layer).thenComparing(component).thenComparing(precinct);
                case 2:
                    return level.thenComparing(place).thenComparing(component).thenComparing(layer);
                case 3:
                    return place.thenComparing(component).thenComparing(level).thenComparing(layer);
                default:
                    return component.thenComparing(place).thenComparing(level).thenComparing(layer);
            }
        }
    }
}
