import java.util.ArrayList;
import java.util.List;

/**
 * The last paragraph of 'Terms': what a refused call leaves as it was, which exception goes ahead of
 * which, and what ends a sequence.
 */
public final class RefusalTest extends Checks {
    private interface State {
        PacketOrder make();
    }

    private record Refusal(String name, String exception, Telling call) {
    }

    public static void main(String[] args) {
        sentence("A call that throws changes nothing: a new object", () -> nothingChanges(PacketOrder::new, "new"));
        sentence("A call that throws changes nothing: no component",
                () -> nothingChanges(RefusalTest::withoutComponent, "no component"));
        sentence("A call that throws changes nothing: no tile",
                () -> nothingChanges(RefusalTest::withoutTile, "no tile"));
        sentence("A call that throws changes nothing: too many precincts",
                () -> nothingChanges(RefusalTest::withTooMany, "too many"));
        sentence("A call that throws changes nothing: told, not begun",
                () -> nothingChanges(RefusalTest::told, "told"));
        sentence("A call that throws changes nothing: ahead of the first packet",
                () -> nothingChanges(() -> begun(0), "begun"));
        sentence("A call that throws changes nothing: on the way", () -> nothingChanges(() -> begun(1), "begun"));
        sentence("A call that throws changes nothing: by the second change",
                () -> nothingChanges(() -> begun(6), "begun"));
        sentence("A call that throws changes nothing: behind the last packet",
                () -> nothingChanges(() -> begun(99), "begun"));
        sentence("A call that throws changes nothing: without changes",
                () -> nothingChanges(RefusalTest::plain, "begun"));
        sentence("A call that throws changes nothing: 16 components and 32 changes",
                () -> nothingChanges(RefusalTest::full, "full"));
        sentence("A call that throws changes nothing: the right call behind it", RefusalTest::rightBehindWrong);
        sentence("Of several exceptions the one that is named first is thrown", RefusalTest::firstException);
        sentence("there is no sequence of packets any more behind a call that tells something new",
                RefusalTest::whatEndsASequence);
        sentence("a call that only asks tells nothing new", RefusalTest::whatOnlyAsks);
        end();
    }

    private static PacketOrder withoutComponent() {
        PacketOrder x = new PacketOrder();
        x.tile(1, 2, 7, 8);
        x.layers(3, 4);
        x.change(0, 2, 0, 1, 1, 2);
        return x;
    }

    private static PacketOrder withoutTile() {
        PacketOrder x = new PacketOrder();
        components(x);
        x.layers(3, 4);
        x.change(0, 2, 0, 1, 1, 2);
        return x;
    }

    private static void components(PacketOrder x) {
        x.component(1, 1, 1);
        x.component(2, 1, 0);
        x.precincts(0, 0, 1, 1);
        x.precincts(0, 1, 2, 3);
        x.precincts(1, 0, 0, 3);
    }

    private static PacketOrder withTooMany() {
        PacketOrder x = withoutTile();
        x.tile(0, 0, 8000, 8);
        return x;
    }

    private static PacketOrder told() {
        PacketOrder x = withoutTile();
        x.tile(1, 2, 7, 8);
        x.change(0, 33, 0, 16, 255, 0);
        return x;
    }

    private static PacketOrder begun(int packets) {
        PacketOrder x = told();
        x.begin();
        x.skip(packets);
        return x;
    }

    private static PacketOrder plain() {
        PacketOrder x = told();
        x.clear();
        x.begin();
        x.skip(4);
        return x;
    }

    private static PacketOrder full() {
        PacketOrder x = withoutTile();
        x.tile(1, 2, 7, 8);
        for (int c = 2; c < 16; c++) {
            x.component(200, 200, 0);
        }
        for (int i = 1; i < 32; i++) {
            x.change(0, 2, 0, 2, 1 + i / 11, i % 5);
        }
        x.begin();
        x.skip(3);
        return x;
    }

    private static List<Refusal> refusals(String state) {
        List<Refusal> all = new ArrayList<>();
        refusedTellings(all);
        refusedPrecincts(all, !state.equals("new") && !state.equals("no component"));
        refusedChanges(all);
        refusedAskings(all);
        boolean hasSequence = state.equals("begun") || state.equals("full");
        if (!hasSequence) {
            withoutSequence(all);
        }
        if (state.equals("full")) {
            all.add(new Refusal("one component more", STATE, x -> x.component(1, 1, 0)));
            all.add(new Refusal("one change more", STATE, x -> x.change(0, 1, 0, 1, 1, 1)));
        }
        if (state.equals("too many")) {
            all.add(new Refusal("begin", UNSUPPORTED, PacketOrder::begin));
        } else if (!hasSequence && !state.equals("told")) {
            all.add(new Refusal("begin", STATE, PacketOrder::begin));
        }
        return all;
    }

    /** Each of them has other numbers than the object, so that a part that is kept shows. */
    private static void refusedTellings(List<Refusal> all) {
        int[][] tiles = {
            {3, 3, 3, 6}, {4, 3, 3, 6}, {3, 3, 6, 3}, {3, 4, 6, 3}, {-1, 3, 6, 6}, {3, -1, 6, 6}, {3, 3, 32768, 6},
            {3, 3, 6, 32768}, {LEAST, 3, 6, 6}, {3, LEAST, 6, 6}, {3, 3, MOST, 6}, {3, 3, 6, MOST}, {0, 0, 0, 0},
        };
        for (int[] a : tiles) {
            all.add(new Refusal("tile", ARGUMENT, x -> x.tile(a[0], a[1], a[2], a[3])));
        }
        int[][] components = {
            {0, 1, 1}, {256, 1, 1}, {1, 0, 1}, {1, 256, 1}, {1, 1, -1}, {1, 1, 33}, {LEAST, 1, 1}, {1, MOST, 1},
            {1, 1, LEAST}, {1, 1, MOST},
        };
        for (int[] a : components) {
            all.add(new Refusal("component", ARGUMENT, x -> x.component(a[0], a[1], a[2])));
        }
        int[][] layers = {{0, 3}, {256, 3}, {-1, 3}, {MOST, 3}, {2, -1}, {2, 5}, {2, LEAST}, {2, MOST}, {0, 5}};
        for (int[] a : layers) {
            all.add(new Refusal("layers", ARGUMENT, x -> x.layers(a[0], a[1])));
        }
    }

    private static void refusedPrecincts(List<Refusal> all, boolean hasComponents) {
        int[][] levels = {{-1, 0}, {16, 0}, {0, -1}, {0, 2}, {1, 1}, {0, 33}, {LEAST, 0}, {MOST, 0}, {0, MOST}};
        for (int[] a : levels) {
            all.add(new Refusal("precincts", ELEMENT, x -> x.precincts(a[0], a[1], 2, 2)));
        }
        int[][] exponents = {
            {0, 0, -1, 2}, {0, 0, 16, 2}, {0, 0, 2, -1}, {0, 0, 2, 16}, {0, 1, 0, 1}, {0, 1, 1, 0}, {0, 1, 16, 1},
            {0, 1, 1, 16}, {1, 0, 16, 1}, {1, 0, 1, 16}, {0, 1, MOST, 1}, {0, 1, 1, LEAST},
        };
        for (int[] a : exponents) {
            all.add(new Refusal("precincts", hasComponents ? ARGUMENT : ELEMENT,
                    x -> x.precincts(a[0], a[1], a[2], a[3])));
        }
    }

    private static void refusedChanges(List<Refusal> all) {
        int[][] changes = {
            {-1, 1, 0, 1, 1, 1}, {1, 1, 0, 1, 1, 1}, {33, 34, 0, 1, 1, 1}, {0, 34, 0, 1, 1, 1}, {0, 1, -1, 1, 1, 1},
            {0, 1, 1, 1, 1, 1}, {0, 1, 16, 17, 1, 1}, {0, 1, 0, 17, 1, 1}, {0, 1, 0, 1, 0, 1}, {0, 1, 0, 1, 256, 1},
            {0, 1, 0, 1, 1, -1}, {0, 1, 0, 1, 1, 5}, {LEAST, MOST, LEAST, MOST, LEAST, MOST},
        };
        for (int[] a : changes) {
            all.add(new Refusal("change", ARGUMENT, x -> tellChange(x, a)));
        }
    }

    private static void refusedAskings(List<Refusal> all) {
        for (int bad : new int[] {-1, -2, LEAST}) {
            all.add(new Refusal("skip " + bad, ARGUMENT, x -> x.skip(bad)));
        }
        for (int bad : new int[] {-1, 5, LEAST, MOST}) {
            all.add(new Refusal("packet " + bad, ELEMENT, x -> x.packet(bad)));
        }
        int[][] places = {{-1, 0, 0}, {16, 0, 0}, {0, -1, 0}, {0, 2, 0}, {0, 0, -1}, {0, 0, 4096}, {MOST, MOST, MOST}};
        for (int[] a : places) {
            all.add(new Refusal("came", ELEMENT, x -> x.came(a[0], a[1], a[2])));
        }
    }

    private static void withoutSequence(List<Refusal> all) {
        all.add(new Refusal("next", STATE, PacketOrder::next));
        for (int n : new int[] {0, 1, MOST}) {
            all.add(new Refusal("skip " + n, STATE, x -> x.skip(n)));
        }
        for (int what = 0; what <= 4; what++) {
            int number = what;
            all.add(new Refusal("packet " + what, ELEMENT, x -> x.packet(number)));
        }
        all.add(new Refusal("came", ELEMENT, x -> x.came(0, 0, 0)));
    }

    /** Two objects of the same calls, one of them with the refused call, must answer alike from there on. */
    private static void nothingChanges(State state, String name) {
        String want = allAnswers(state.make());
        List<Refusal> all = refusals(name);
        for (int i = 0; i < all.size(); i++) {
            Refusal refusal = all.get(i);
            PacketOrder x = state.make();
            refused(refusal.name + ", refusal " + i, refusal.exception, () -> refusal.call.run(x));
            due("all answers behind " + refusal.name + ", refusal " + i, want, () -> allAnswers(x));
        }
        PacketOrder x = state.make();
        for (int i = 0; i < all.size(); i++) {
            Refusal refusal = all.get(i);
            refused(refusal.name + " in a row, refusal " + i, refusal.exception, () -> refusal.call.run(x));
        }
        due("all answers behind all of them", want, () -> allAnswers(x));
    }

    /** All that can be asked of an object, in fewer than 400 calls: first of its sequence, then of what was told. */
    private static String allAnswers(PacketOrder x) {
        StringBuilder text = new StringBuilder();
        packetAndCame(x, text);
        for (int i = 0; i < 4; i++) {
            text.append(" next ").append(answerOf(x::next)).append(packetOf(x));
        }
        text.append(" skip ").append(answerOf(() -> x.skip(MOST)));
        packetAndCame(x, text);
        text.append(" begin ").append(answerOf(x::begin));
        for (int i = 0; i < 16; i++) {
            text.append(" next ").append(answerOf(x::next)).append(packetOf(x));
        }
        text.append(" skip ").append(answerOf(() -> x.skip(MOST))).append(packetOf(x));
        text.append(" change ").append(answerOf(() -> x.change(1, 2, 0, 1, 1, 3)));
        text.append(" component ").append(answerOf(() -> x.component(1, 1, 1)));
        text.append(" begin ").append(answerOf(x::begin)).append(answerOf(() -> x.skip(MOST)));
        x.clear();
        text.append(" clear, begin ").append(answerOf(x::begin));
        for (int i = 0; i < 10; i++) {
            text.append(" next ").append(answerOf(x::next)).append(packetOf(x));
        }
        x.tile(0, 0, 5, 6);
        text.append(" tile, begin ").append(answerOf(x::begin)).append(answerOf(() -> x.skip(MOST)));
        return text.toString();
    }

    private static void packetAndCame(PacketOrder x, StringBuilder text) {
        text.append(packetOf(x)).append(" came");
        for (int i = 0; i < 28; i++) {
            int number = i;
            text.append(' ').append(answerOf(() -> x.came(number % 2, number / 2 % 2, number / 4)));
        }
    }

    private static String packetOf(PacketOrder x) {
        StringBuilder text = new StringBuilder(" packet");
        for (int what = 0; what <= 4; what++) {
            int number = what;
            text.append(' ').append(answerOf(() -> x.packet(number)));
        }
        return text.toString();
    }

    private static void rightBehindWrong() {
        PacketOrder x = new PacketOrder();
        refused("a wrong tile", ARGUMENT, () -> x.tile(1, 1, 9, 1));
        done("a right tile", () -> x.tile(0, 0, 4, 4));
        due("a wrong component", ARGUMENT, () -> x.component(1, 1, 33));
        due("a right component", 0, () -> x.component(1, 1, 0));
        refused("wrong precincts", ARGUMENT, () -> x.precincts(0, 0, 2, 16));
        done("right precincts", () -> x.precincts(0, 0, 1, 1));
        refused("wrong layers", ARGUMENT, () -> x.layers(2, 5));
        done("right layers", () -> x.layers(2, 4));
        due("a wrong change", ARGUMENT, () -> x.change(0, 1, 0, 1, 1, 5));
        due("a right change", 1, () -> x.change(0, 1, 0, 1, 2, 0));
        due("begin", 8, x::begin);
        due("a wrong skip", ARGUMENT, () -> x.skip(-1));
        due("a right skip", 5, () -> x.skip(5));
        due("a wrong what", ELEMENT, () -> x.packet(5));
        due("the fifth", "1.0.0.0", () -> lastPacket(x));
        due("a wrong precinct", ELEMENT, () -> x.came(0, 0, 4));
        due("a right precinct", 2, () -> x.came(0, 0, 0));
        due("the rest", "1.0.0.1 1.0.0.2 1.0.0.3", () -> packets(x, 9));
    }

    private static void firstException() {
        PacketOrder full = full();
        due("component: wrong and one too many", ARGUMENT, () -> full.component(0, 1, 0));
        due("component: wrong step and one too many", ARGUMENT, () -> full.component(1, 256, 0));
        due("component: wrong N and one too many", ARGUMENT, () -> full.component(1, 1, 33));
        due("component: one too many alone", STATE, () -> full.component(1, 1, 0));
        int[][] wrong = {
            {-1, 1, 0, 1, 1, 0}, {0, 34, 0, 1, 1, 0}, {1, 1, 0, 1, 1, 0}, {0, 1, -1, 1, 1, 0}, {0, 1, 0, 17, 1, 0},
            {0, 1, 0, 1, 0, 0}, {0, 1, 0, 1, 256, 0}, {0, 1, 0, 1, 1, -1}, {0, 1, 0, 1, 1, 5},
        };
        for (int[] a : wrong) {
            due("change: wrong and one too many", ARGUMENT, () -> tellChange(full, a));
        }
        due("change: one too many alone", STATE, () -> full.change(0, 1, 0, 1, 1, 0));
        PacketOrder x = withoutTile();
        for (int[] level : new int[][] {{-1, 0}, {2, 0}, {16, 1}, {0, -1}, {0, 2}, {1, 1}, {LEAST, MOST}}) {
            for (int bad : new int[] {-1, 16, 0, LEAST, MOST}) {
                String name = "precincts: no such level " + level[0] + ", " + level[1] + " and wrong " + bad;
                refused(name, ELEMENT, () -> x.precincts(level[0], level[1], bad, 1));
                refused(name, ELEMENT, () -> x.precincts(level[0], level[1], 1, bad));
            }
        }
        refused("precincts: wrong alone", ARGUMENT, () -> x.precincts(0, 1, 0, 1));
        for (int n : new int[] {-1, LEAST}) {
            due("skip: below 0 without a sequence", ARGUMENT, () -> x.skip(n));
            due("skip: below 0 of a new object", ARGUMENT, () -> new PacketOrder().skip(n));
        }
        due("skip: without a sequence alone", STATE, () -> x.skip(0));
        due("begin: no tile", STATE, x::begin);
        x.precincts(0, 0, 0, 0);
        due("begin: no tile for many precincts", STATE, x::begin);
        due("begin: many precincts alone", UNSUPPORTED, () -> withTooMany().begin());
    }

    private static void whatEndsASequence() {
        Telling[] endings = {
            x -> x.tile(1, 2, 7, 7), x -> x.component(1, 1, 0), x -> x.precincts(0, 1, 2, 2), x -> x.layers(2, 4),
            x -> x.layers(3, 1), x -> x.change(0, 1, 0, 1, 1, 0), x -> x.clear(),
        };
        for (int i = 0; i < endings.length; i++) {
            for (int packets : new int[] {0, 1, 6, 99}) {
                PacketOrder x = begun(packets);
                String name = " behind ending " + i + " and " + packets + " packets";
                endings[i].run(x);
                due("next" + name, STATE, x::next);
                due("skip" + name, STATE, () -> x.skip(0));
                due("packet" + name, ELEMENT, () -> x.packet(0));
                due("change of a packet" + name, ELEMENT, () -> x.packet(4));
                due("came" + name, ELEMENT, () -> x.came(0, 0, 0));
                x.begin();
                due("none came" + name, ELEMENT, () -> x.packet(0));
                due("none of a precinct" + name, 0, () -> x.came(0, 0, 0));
                due("next of the new sequence" + name, true, x::next);
            }
        }
    }

    private static void whatOnlyAsks() {
        for (int packets : new int[] {0, 1, 6, 99}) {
            String want = allAnswers(begun(packets));
            PacketOrder x = begun(packets);
            answerOf(() -> x.packet(0));
            answerOf(() -> x.packet(4));
            x.came(0, 0, 0);
            x.came(1, 0, 0);
            due("skip of none", 0, () -> x.skip(0));
            due("all answers behind " + packets, want, () -> allAnswers(x));
        }
        String want = allAnswers(begun(99));
        PacketOrder x = begun(99);
        due("next at the end", false, x::next);
        due("skip at the end", 0, () -> x.skip(MOST));
        due("all answers at the end", want, () -> allAnswers(x));
    }
}
