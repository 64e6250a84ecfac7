/** What the tests share: counting wrong answers, and the calls that bring an object to where a test begins. */
final class Checks {
    static final int UNKNOWN = -1, OUTSIDE = -2, STATE = -3, FROZEN = -4, HEADER = -5, PROOF = -6, LATE = -7,
            ORDER = -8, VERSION = -9, ROOM = -10;
    static final int[] WILD = {Integer.MIN_VALUE, -201, -1, 1000000, Integer.MAX_VALUE};

    private static int wrong = 0;
    private static int asked = 0;

    private Checks() {
    }

    static void due(String call, int got, int want) {
        asked++;
        if (got != want) {
            wrong++;
            System.out.println(call + " answered " + got + ", due is " + want);
        }
    }

    /** An answer on the way to what a test looks at: told only where it is wrong. */
    static void quiet(String call, int got, int want) {
        if (got != want) {
            due(call, got, want);
        }
    }

    static void end() {
        System.out.println(asked + " answers, " + wrong + " wrong");
        if (wrong != 0) {
            System.exit(1);
        }
    }

    static boolean isAnyWrong() {
        return wrong != 0;
    }

    /** Ends a BLOCK of a side and brings its new height to the other side: that height. */
    static int bring(BridgeClients x, int side) {
        int height = x.tick(side);
        quiet("follow " + height + " of side " + side, x.follow(1 - side, height, 0), 1);
        return height;
    }

    /** A channel that is OPEN at both ENDS; the first side is two BLOCKS higher then, the other one is one. */
    static int open(BridgeClients x, int first, boolean ordered) {
        int channel = x.init(first, ordered, 7);
        quiet("meet", x.meet(channel, 7, bring(x, first)), 3);
        quiet("agree", x.agree(channel, bring(x, 1 - first)), 3);
        quiet("confirm", x.confirm(channel, bring(x, first)), 3);
        return channel;
    }

    /** The client of a side is FROZEN by a second MARK of a height of the other side. */
    static void freeze(BridgeClients x, int side, int height) {
        quiet("freeze", x.follow(side, height, 9), 2);
    }
}
