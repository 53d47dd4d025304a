/** What the tests have in common: they ask for answers, count the wrong ones, and tell them. */
abstract class Checks {
    static final String ARGUMENT = "IllegalArgumentException";
    static final String STATE = "IllegalStateException";
    static final String ELEMENT = "NoSuchElementException";
    static final String UNSUPPORTED = "UnsupportedOperationException";
    static final int LEAST = Integer.MIN_VALUE;
    static final int MOST = Integer.MAX_VALUE;

    // A test takes some seconds: this is reached only if a call does not end.
    private static final int MOST_SECONDS = 300;

    private static int wrong = 0;
    private static int asked = 0;
    private static volatile String topic = "";

    static {
        Thread guard = new Thread(Checks::failWhenTooLong);
        guard.setDaemon(true);
        guard.start();
    }

    private static void failWhenTooLong() {
        try {
            Thread.sleep(MOST_SECONDS * 1000L);
        } catch (InterruptedException e) {
            return;
        }
        System.out.println(topic + "a call does not end");
        Runtime.getRuntime().halt(1);
    }

    interface Call {
        Object run();
    }

    interface Order {
        void run();
    }

    interface Telling {
        void run(PacketOrder x);
    }

    /** A test by its own, under the words of the document that it looks after. */
    static void sentence(String words, Order test) {
        topic = words + "\n    ";
        int before = asked;
        test.run();
        if (asked == before) {
            tell("nothing was asked");
        }
        topic = "";
    }

    private static void tell(String fault) {
        wrong++;
        System.out.println(topic + fault);
    }

    static Object answerOf(Call call) {
        try {
            return call.run();
        } catch (RuntimeException e) {
            return e.getClass().getSimpleName();
        }
    }

    static Object outcomeOf(Order order) {
        return answerOf(() -> {
            order.run();
            return "done";
        });
    }

    static void due(String what, Object want, Call call) {
        asked++;
        Object got = answerOf(call);
        if (!want.equals(got)) {
            tell(what + " answered " + got + ", due is " + want);
        }
    }

    static void done(String what, Order order) {
        due(what, "done", () -> outcomeOf(order));
    }

    static void refused(String what, String exception, Order order) {
        due(what, exception, () -> outcomeOf(order));
    }

    static void end() {
        System.out.println(wrong == 0 ? "all " + asked + " answers are as due" : wrong + " answers are not as due");
        if (wrong != 0) {
            System.exit(1);
        }
    }

    /** Layer, level, component and precinct of the last packet. */
    static String lastPacket(PacketOrder x) {
        return x.packet(0) + "." + x.packet(1) + "." + x.packet(2) + "." + x.packet(3);
    }

    /** The next packets, no more than that many of them: a sequence without an end must not hold a test. */
    static String packets(PacketOrder x, int most) {
        StringBuilder text = new StringBuilder();
        for (int i = 0; i < most && x.next(); i++) {
            text.append(i == 0 ? "" : " ").append(lastPacket(x));
        }
        return text.toString();
    }

    /** One number of each of the next packets. */
    static String numbers(PacketOrder x, int what, int most) {
        StringBuilder text = new StringBuilder();
        for (int i = 0; i < most && x.next(); i++) {
            text.append(i == 0 ? "" : " ").append(x.packet(what));
        }
        return text.toString();
    }

    static boolean hasPrecinct(PacketOrder x, int c, int r, int p) {
        return !answerOf(() -> x.came(c, r, p)).equals(ELEMENT);
    }

    /** How many precincts a level has, in a new sequence; at most 300, because an object has 512 calls. */
    static int precinctsOf(PacketOrder x, int c, int r) {
        x.begin();
        int p = 0;
        while (p < 300 && hasPrecinct(x, c, r, p)) {
            p++;
        }
        return p;
    }

    /** A tile of 4 x 4 points and one component whose one level has a precinct for each 2 x 2. */
    static PacketOrder four() {
        PacketOrder x = new PacketOrder();
        x.tile(0, 0, 4, 4);
        x.component(1, 1, 0);
        x.precincts(0, 0, 1, 1);
        return x;
    }

    static int tellChange(PacketOrder x, int[] a) {
        return x.change(a[0], a[1], a[2], a[3], a[4], a[5]);
    }
}
