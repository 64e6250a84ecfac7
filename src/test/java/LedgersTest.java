/** Promises 1 to 6, 23 and 24: ledgers, clients, counts, a new object and a cleared one. */
public final class LedgersTest {
    public static void main(String[] args) {
        constants();
        newObject();
        tick();
        followAndFreeze();
        followBounds();
        renew();
        clientAndFollows();
        count();
        clear();
        Checks.end();
    }

    private static void constants() {
        int[] got = {BridgeClients.UNKNOWN, BridgeClients.OUTSIDE, BridgeClients.STATE, BridgeClients.FROZEN,
            BridgeClients.HEADER, BridgeClients.PROOF, BridgeClients.LATE, BridgeClients.ORDER,
            BridgeClients.VERSION, BridgeClients.ROOM};
        for (int i = 0; i < got.length; i++) {
            Checks.due("constant " + i, got[i], -1 - i);
        }
    }

    private static void newObject() {
        asAtFirst(new BridgeClients(), 200);
    }

    /** How many heights are asked for is told, as an object is promised for 512 calls alone. */
    private static void asAtFirst(BridgeClients x, int heights) {
        for (int what = 0; what < 5; what++) {
            Checks.due("count " + what, x.count(what), 0);
        }
        for (int side = 0; side < 2; side++) {
            for (int what = 0; what < 3; what++) {
                Checks.due("client " + what, x.client(side, what), 0);
            }
            for (int height = 1; height <= heights; height++) {
                Checks.due("follows " + height, x.follows(side, height), 0);
            }
            for (int account = 0; account < 4; account++) {
                Checks.due("home balance", x.balance(side, account, side), 1000);
                Checks.due("other balance", x.balance(side, account, 1 - side), 0);
                Checks.due("vouchers", x.vouchers(0, side, account), Checks.UNKNOWN);
            }
            Checks.due("end", x.end(0, side, 0), Checks.UNKNOWN);
            Checks.due("stepAt", x.stepAt(0, side, 0), Checks.UNKNOWN);
            Checks.due("sum 0", x.sum(side, 0), 4000);
            Checks.due("sum 1", x.sum(side, 1), 0);
            Checks.due("sum 2", x.sum(side, 2), 0);
            Checks.due("sum 3", x.sum(side, 3), 0);
        }
        Checks.due("message", x.message(0, 0), Checks.UNKNOWN);
    }

    private static void tick() {
        BridgeClients x = new BridgeClients();
        for (int side : Checks.WILD) {
            Checks.due("tick " + side, x.tick(side), Checks.UNKNOWN);
        }
        Checks.due("tick 2", x.tick(2), Checks.UNKNOWN);
        for (int height = 1; height <= 200; height++) {
            Checks.due("tick", x.tick(1), height);
        }
        Checks.due("tick at 200", x.tick(1), Checks.ROOM);
        Checks.due("height 1", x.count(1), 200);
        Checks.due("height 0", x.count(0), 0);
        Checks.due("tick of the other side", x.tick(0), 1);
        Checks.due("the greatest height", x.follow(0, 200, 0), 1);
        Checks.due("it is followed", x.follows(0, 200), 1);
    }

    private static void followAndFreeze() {
        BridgeClients x = new BridgeClients();
        x.tick(1);
        x.tick(1);
        x.tick(1);
        Checks.due("right mark", x.follow(0, 1, 0), 1);
        Checks.due("false mark", x.follow(0, 3, 4), 1);
        Checks.due("same right mark", x.follow(0, 1, 0), Checks.STATE);
        Checks.due("same false mark", x.follow(0, 3, 4), Checks.STATE);
        Checks.due("two false marks", x.follow(0, 3, 5), 2);
        Checks.due("frozen", x.client(0, 0), 1);
        Checks.due("frozen, mark is followed", x.follow(0, 3, 4), Checks.STATE);
        Checks.due("frozen, the mark that froze", x.follow(0, 3, 5), Checks.FROZEN);
        Checks.due("frozen, a new height", x.follow(0, 2, 0), Checks.FROZEN);
        Checks.due("frozen, outside", x.follow(0, 4, 0), Checks.OUTSIDE);
        Checks.due("still followed", x.follows(0, 1), 1);
        Checks.due("still followed by a false mark", x.follows(0, 3), 2);
        Checks.due("not followed", x.follows(0, 2), 0);
        Checks.due("how many", x.client(0, 2), 2);
        Checks.due("the other client is as it was", x.client(1, 0), 0);
    }

    private static void followBounds() {
        BridgeClients x = new BridgeClients();
        x.tick(0);
        x.tick(0);
        x.tick(1);
        for (int wild : Checks.WILD) {
            Checks.due("side", x.follow(wild, 1, 0), Checks.UNKNOWN);
            Checks.due("height", x.follow(0, wild, 0), Checks.OUTSIDE);
            Checks.due("mark", x.follow(0, 1, wild), Checks.OUTSIDE);
        }
        Checks.due("side before height", x.follow(2, 0, 10), Checks.UNKNOWN);
        Checks.due("height 0", x.follow(0, 0, 0), Checks.OUTSIDE);
        Checks.due("above side 1", x.follow(0, 2, 0), Checks.OUTSIDE);
        Checks.due("mark 10", x.follow(0, 1, 10), Checks.OUTSIDE);
        Checks.due("HEIGHT of side 0", x.follow(1, 2, 9), 1);
        Checks.due("above side 0", x.follow(1, 3, 0), Checks.OUTSIDE);
        Checks.due("nothing was followed", x.client(0, 2), 0);
    }

    private static void renew() {
        BridgeClients x = new BridgeClients();
        for (int wild : Checks.WILD) {
            Checks.due("side", x.renew(wild), Checks.UNKNOWN);
        }
        Checks.due("not frozen", x.renew(0), Checks.STATE);
        for (int height = 1; height <= 5; height++) {
            x.tick(1);
            Checks.due("follow", x.follow(0, height, height % 2), 1);
        }
        Checks.due("follows, not frozen", x.renew(0), Checks.STATE);
        Checks.due("freeze", x.follow(0, 2, 1), 2);
        Checks.due("the other one", x.renew(1), Checks.STATE);
        Checks.due("renew", x.renew(0), 5);
        Checks.due("not frozen now", x.client(0, 0), 0);
        Checks.due("greatest", x.client(0, 1), 0);
        Checks.due("how many", x.client(0, 2), 0);
        for (int height = 1; height <= 5; height++) {
            Checks.due("follows none", x.follows(0, height), 0);
        }
        Checks.due("again", x.renew(0), Checks.STATE);
        Checks.due("another mark is the first one now", x.follow(0, 2, 7), 1);
        Checks.due("by a false mark", x.follows(0, 2), 2);
    }

    private static void clientAndFollows() {
        BridgeClients x = new BridgeClients();
        for (int i = 0; i < 9; i++) {
            x.tick(0);
        }
        Checks.due("7", x.follow(1, 7, 2), 1);
        Checks.due("3", x.follow(1, 3, 0), 1);
        Checks.due("frozen", x.client(1, 0), 0);
        Checks.due("greatest is not the last", x.client(1, 1), 7);
        Checks.due("how many", x.client(1, 2), 2);
        Checks.due("the other client", x.client(0, 1), 0);
        Checks.due("follows false", x.follows(1, 7), 2);
        Checks.due("follows right", x.follows(1, 3), 1);
        Checks.due("follows not", x.follows(1, 5), 0);
        Checks.due("above HEIGHT", x.follows(1, 200), 0);
        Checks.due("0", x.follows(1, 0), Checks.OUTSIDE);
        Checks.due("201", x.follows(1, 201), Checks.OUTSIDE);
        Checks.due("side 2", x.follows(2, 201), Checks.UNKNOWN);
        Checks.due("client of side 2", x.client(2, 3), Checks.UNKNOWN);
        Checks.due("what 3", x.client(1, 3), Checks.OUTSIDE);
        for (int wild : Checks.WILD) {
            Checks.due("client side", x.client(wild, 0), Checks.UNKNOWN);
            Checks.due("client what", x.client(0, wild), Checks.OUTSIDE);
            Checks.due("follows side", x.follows(wild, 1), Checks.UNKNOWN);
            Checks.due("follows height", x.follows(0, wild), Checks.OUTSIDE);
        }
    }

    private static void count() {
        BridgeClients x = new BridgeClients();
        int channel = Checks.open(x, 0, false);
        Checks.due("send", x.send(channel, 0, 0, 0, 0, 5, 50), 0);
        Checks.due("send", x.send(channel, 1, 0, 0, 1, 5, 50), 1);
        Checks.due("receive", x.receive(0, Checks.bring(x, 0)), 1);
        Checks.due("received, it STANDS yet", x.count(4), 2);
        Checks.due("acknowledge", x.acknowledge(0, Checks.bring(x, 1)), 1);
        Checks.due("HEIGHT 0", x.count(0), 3);
        Checks.due("HEIGHT 1", x.count(1), 2);
        Checks.due("channels", x.count(2), 1);
        Checks.due("messages", x.count(3), 2);
        Checks.due("those that STAND", x.count(4), 1);
        Checks.due("what 5", x.count(5), Checks.OUTSIDE);
        for (int wild : Checks.WILD) {
            Checks.due("what", x.count(wild), Checks.OUTSIDE);
        }
    }

    private static void clear() {
        BridgeClients x = new BridgeClients();
        Checks.due("nothing to clear", x.clear(), 0);
        for (int round = 0; round < 3; round++) {
            int channel = Checks.open(x, round % 2, round == 0);
            Checks.due("number of the channel", channel, 0);
            Checks.due("first message", x.send(channel, 0, 1, 1, 0, 600, 100), 0);
            Checks.due("second message", x.send(channel, 1, 1, 6, 1, 400, 100), 1);
            for (int message = 0; message < 2; message++) {
                Checks.due("it STANDS", x.message(message, 8), 1);
                Checks.due("not received", x.message(message, 9), 0);
                Checks.due("not back", x.message(message, 10), 0);
            }
            Checks.due("no old vouchers", x.vouchers(channel, 1, 1), 0);
            int height = Checks.bring(x, 0);
            Checks.due("receive", x.receive(0, height), 1);
            Checks.due("vouchers", x.vouchers(channel, 1, 1), 600);
            Checks.due("receive", x.receive(1, Checks.bring(x, 1)), 0);
            Checks.due("acknowledge", x.acknowledge(1, Checks.bring(x, 0)), 0);
            Checks.due("close", x.close(channel, 0), 1);
            Checks.freeze(x, 1, height);
            Checks.due("clear", x.clear(), 2);
            asAtFirst(x, 5);
        }
        Checks.due("a new channel", x.init(1, false, 2), 0);
        int[] due = {1, 2, 0, 0, 0, 0, 0};
        for (int what = 0; what < due.length; what++) {
            Checks.due("end " + what, x.end(0, 1, what), due[what]);
            Checks.due("end there " + what, x.end(0, 0, what), 0);
        }
        Checks.due("no old STATE is left", x.stepAt(0, 1, 0), 0);
        x.tick(1);
        x.tick(0);
        Checks.due("the new STATE", x.stepAt(0, 1, 1), 1);
        Checks.due("the STATE there", x.stepAt(0, 0, 1), 0);
    }
}
