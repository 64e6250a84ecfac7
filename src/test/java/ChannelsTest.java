/** Promises 7 to 12, 17 and 18: the four steps, closing, and what is asked of an END. */
public final class ChannelsTest {
    public static void main(String[] args) {
        init();
        versions();
        meet();
        agree();
        confirm();
        confirmOfClosed();
        close();
        shut();
        end();
        stepAt();
        unknownNumbers();
        Checks.end();
    }

    private static void init() {
        BridgeClients x = new BridgeClients();
        Checks.due("side 2", x.init(2, false, 0), Checks.UNKNOWN);
        for (int wild : Checks.WILD) {
            Checks.due("side", x.init(wild, false, 1), Checks.UNKNOWN);
            Checks.due("offer", x.init(0, false, wild), Checks.OUTSIDE);
        }
        Checks.due("offer 0", x.init(0, true, 0), Checks.OUTSIDE);
        Checks.due("offer 8", x.init(0, true, 8), Checks.OUTSIDE);
        Checks.due("none was made", x.count(2), 0);
        for (int i = 0; i < 4; i++) {
            Checks.due("number", x.init(i % 2, i < 2, i + 4), i);
            Checks.due("step", x.end(i, i % 2, 0), 1);
            Checks.due("step there", x.end(i, 1 - i % 2, 0), 0);
            Checks.due("offer", x.end(i, i % 2, 1), i + 4);
            Checks.due("offer there", x.end(i, 1 - i % 2, 1), 0);
            Checks.due("version", x.end(i, i % 2, 2), 0);
            Checks.due("ordered", x.end(i, 0, 6), i < 2 ? 1 : 0);
            Checks.due("ordered there", x.end(i, 1, 6), i < 2 ? 1 : 0);
        }
        Checks.due("fifth", x.init(0, false, 1), Checks.ROOM);
        Checks.due("fifth, outside", x.init(0, false, 8), Checks.OUTSIDE);
        Checks.due("channels", x.count(2), 4);
    }

    private static void versions() {
        for (int first = 1; first <= 7; first++) {
            for (int second = 1; second <= 7; second++) {
                BridgeClients x = new BridgeClients();
                x.init(1, false, first);
                int height = Checks.bring(x, 1);
                int both = first & second;
                int due = both >= 4 ? 3 : both >= 2 ? 2 : both == 1 ? 1 : Checks.VERSION;
                Checks.due("meet " + first + " " + second, x.meet(0, second, height), due);
                Checks.due("version", x.end(0, 0, 2), Math.max(due, 0));
                Checks.due("offer", x.end(0, 0, 1), due > 0 ? second : 0);
                Checks.due("step", x.end(0, 0, 0), due > 0 ? 2 : 0);
                Checks.due("version of the first END", x.end(0, 1, 2), 0);
            }
        }
    }

    private static void meet() {
        BridgeClients x = new BridgeClients();
        x.tick(0);
        Checks.due("follow", x.follow(1, 1, 0), 1);
        x.init(0, false, 3);
        Checks.due("unknown before outside", x.meet(1, 8, 1), Checks.UNKNOWN);
        Checks.due("offer 0", x.meet(0, 0, 1), Checks.OUTSIDE);
        Checks.due("offer 8", x.meet(0, 8, 1), Checks.OUTSIDE);
        Checks.due("before it", x.meet(0, 4, 1), Checks.PROOF);
        x.tick(0);
        Checks.due("not followed", x.meet(0, 4, 2), Checks.HEADER);
        Checks.due("false mark", x.follow(1, 2, 1), 1);
        Checks.due("by a false mark", x.meet(0, 4, 2), Checks.HEADER);
        for (int wild : Checks.WILD) {
            Checks.due("height", x.meet(0, 3, wild), Checks.HEADER);
            Checks.due("offer", x.meet(0, wild, 1), Checks.OUTSIDE);
        }
        Checks.due("height 0", x.meet(0, 3, 0), Checks.HEADER);
        Checks.due("height 201", x.meet(0, 3, 201), Checks.HEADER);
        Checks.freeze(x, 1, 1);
        Checks.due("frozen", x.meet(0, 4, 2), Checks.FROZEN);
        Checks.due("frozen, offer", x.meet(0, 8, 2), Checks.OUTSIDE);
        Checks.due("renew", x.renew(1), 2);
        Checks.due("renewed, follows none", x.meet(0, 3, 1), Checks.HEADER);
        Checks.due("follow", x.follow(1, 2, 0), 1);
        Checks.due("no version", x.meet(0, 4, 2), Checks.VERSION);
        Checks.due("meet", x.meet(0, 6, 2), 2);
        Checks.due("state before header", x.meet(0, 6, 3), Checks.STATE);
        Checks.freeze(x, 1, 2);
        Checks.due("state before frozen", x.meet(0, 6, 2), Checks.STATE);
    }

    private static void agree() {
        BridgeClients x = new BridgeClients();
        x.init(1, true, 7);
        int early = Checks.bring(x, 0);
        Checks.due("no TRY", x.agree(0, early), Checks.PROOF);
        Checks.due("meet", x.meet(0, 5, Checks.bring(x, 1)), 3);
        Checks.due("before the tick", x.agree(0, early), Checks.PROOF);
        int height = x.tick(0);
        Checks.due("not followed", x.agree(0, height), Checks.HEADER);
        Checks.due("follow false", x.follow(1, height, 2), 1);
        Checks.due("false mark", x.agree(0, height), Checks.HEADER);
        Checks.freeze(x, 1, height);
        Checks.due("frozen", x.agree(0, height), Checks.FROZEN);
        x.renew(1);
        Checks.due("follow", x.follow(1, height, 0), 1);
        Checks.due("agree", x.agree(0, height), 3);
        Checks.due("step", x.end(0, 1, 0), 3);
        Checks.due("version", x.end(0, 1, 2), 3);
        Checks.due("the other END", x.end(0, 0, 0), 2);
        Checks.due("again", x.agree(0, height), Checks.STATE);
        Checks.freeze(x, 1, height);
        Checks.due("state before frozen", x.agree(0, height), Checks.STATE);
    }

    private static void confirm() {
        BridgeClients x = new BridgeClients();
        x.init(0, true, 6);
        Checks.due("END is 0", x.confirm(0, 1), Checks.STATE);
        int early = Checks.bring(x, 0);
        Checks.due("meet", x.meet(0, 3, early), 2);
        Checks.due("INIT there", x.confirm(0, early), Checks.PROOF);
        Checks.due("agree", x.agree(0, Checks.bring(x, 1)), 2);
        Checks.due("OPEN is not in that STATE", x.confirm(0, early), Checks.PROOF);
        Checks.due("not followed", x.confirm(0, early + 1), Checks.HEADER);
        int height = Checks.bring(x, 0);
        Checks.freeze(x, 1, early);
        Checks.due("frozen", x.confirm(0, height), Checks.FROZEN);
        x.renew(1);
        Checks.due("renewed", x.confirm(0, height), Checks.HEADER);
        Checks.due("follow", x.follow(1, height, 0), 1);
        Checks.due("confirm", x.confirm(0, height), 2);
        Checks.due("step", x.end(0, 1, 0), 3);
        Checks.due("again", x.confirm(0, height), Checks.STATE);
    }

    private static void confirmOfClosed() {
        BridgeClients x = new BridgeClients();
        x.init(0, false, 7);
        x.meet(0, 7, Checks.bring(x, 0));
        x.agree(0, Checks.bring(x, 1));
        int open = Checks.bring(x, 0);
        Checks.due("close", x.close(0, 0), 1);
        int closed = Checks.bring(x, 0);
        Checks.due("it is CLOSED in that STATE", x.confirm(0, closed), Checks.PROOF);
        Checks.due("TRY cannot be shut", x.shut(0, 1, closed), Checks.STATE);
        Checks.due("it was OPEN in that STATE", x.confirm(0, open), 3);
        Checks.due("shut by an older STATE", x.shut(0, 1, open), Checks.PROOF);
        Checks.due("shut", x.shut(0, 1, closed), 1);
    }

    private static void close() {
        BridgeClients x = new BridgeClients();
        x.init(0, false, 7);
        Checks.due("none", x.close(0, 1), Checks.STATE);
        Checks.due("INIT", x.close(0, 0), Checks.STATE);
        int height = Checks.bring(x, 0);
        x.meet(0, 7, height);
        Checks.due("TRY", x.close(0, 1), Checks.STATE);
        x.agree(0, Checks.bring(x, 1));
        Checks.freeze(x, 1, height);
        Checks.due("OPEN", x.close(0, 0), 1);
        Checks.due("CLOSED", x.close(0, 0), Checks.STATE);
        Checks.due("step", x.end(0, 0, 0), 4);
        Checks.due("the other END", x.end(0, 1, 0), 2);
        Checks.due("a FROZEN client closes, too", frozenCloses(), 1);
    }

    private static int frozenCloses() {
        BridgeClients x = new BridgeClients();
        int channel = Checks.open(x, 1, true);
        Checks.freeze(x, 0, 1);
        return x.close(channel, 0);
    }

    private static void shut() {
        for (int side = 0; side < 2; side++) {
            BridgeClients x = new BridgeClients();
            int channel = Checks.open(x, 0, false);
            int open = Checks.bring(x, 1 - side);
            Checks.due("it is OPEN there", x.shut(channel, side, open), Checks.PROOF);
            Checks.due("close", x.close(channel, 1 - side), 1);
            Checks.due("not in that STATE", x.shut(channel, side, open), Checks.PROOF);
            Checks.due("not followed", x.shut(channel, side, open + 1), Checks.HEADER);
            Checks.due("its own END is CLOSED", x.shut(channel, 1 - side, open), Checks.STATE);
            int closed = Checks.bring(x, 1 - side);
            Checks.freeze(x, side, open);
            Checks.due("frozen", x.shut(channel, side, closed), Checks.FROZEN);
            x.renew(side);
            x.follow(side, closed, 0);
            Checks.due("shut", x.shut(channel, side, closed), 1);
            Checks.due("step", x.end(channel, side, 0), 4);
            Checks.due("again", x.shut(channel, side, closed), Checks.STATE);
        }
    }

    private static void end() {
        BridgeClients x = new BridgeClients();
        int channel = Checks.open(x, 1, true);
        x.send(channel, 0, 2, 3, 0, 10, 90);
        x.send(channel, 0, 2, 4, 0, 20, 90);
        x.send(channel, 1, 2, 0, 1, 7, 90);
        int height = Checks.bring(x, 0);
        Checks.due("well", x.receive(0, height), 1);
        Checks.due("FAILED", x.receive(1, height), 0);
        int[] here = {3, 7, 3, 30, 2, 0, 1};
        int[] there = {3, 7, 3, 7, 1, 2, 1};
        for (int what = 0; what < 7; what++) {
            Checks.due("end here " + what, x.end(channel, 0, what), here[what]);
            Checks.due("end there " + what, x.end(channel, 1, what), there[what]);
        }
        Checks.due("what 7", x.end(channel, 0, 7), Checks.OUTSIDE);
        Checks.due("unknown before outside", x.end(channel, 2, 7), Checks.UNKNOWN);
    }

    private static void stepAt() {
        BridgeClients x = new BridgeClients();
        int channel = Checks.open(x, 0, false);
        Checks.due("close", x.close(channel, 0), 1);
        Checks.due("not yet in a STATE", x.stepAt(channel, 0, 2), 3);
        x.tick(0);
        x.tick(0);
        x.tick(1);
        int[] here = {0, 1, 3, 4, 4};
        for (int height = 0; height < here.length; height++) {
            Checks.due("stepAt here " + height, x.stepAt(channel, 0, height), here[height]);
        }
        int[] there = {0, 2, 3};
        for (int height = 0; height < there.length; height++) {
            Checks.due("stepAt there " + height, x.stepAt(channel, 1, height), there[height]);
        }
        Checks.due("above HEIGHT 0", x.stepAt(channel, 0, 5), Checks.OUTSIDE);
        Checks.due("above HEIGHT 1", x.stepAt(channel, 1, 3), Checks.OUTSIDE);
        Checks.due("below 0", x.stepAt(channel, 0, -1), Checks.OUTSIDE);
        Checks.due("unknown before outside", x.stepAt(channel + 1, 0, -1), Checks.UNKNOWN);
    }

    private static void unknownNumbers() {
        BridgeClients x = new BridgeClients();
        Checks.open(x, 0, false);
        for (int wild : Checks.WILD) {
            Checks.due("meet", x.meet(wild, 1, 1), Checks.UNKNOWN);
            Checks.due("agree", x.agree(wild, 1), Checks.UNKNOWN);
            Checks.due("confirm", x.confirm(wild, 1), Checks.UNKNOWN);
            Checks.due("close channel", x.close(wild, 0), Checks.UNKNOWN);
            Checks.due("close side", x.close(0, wild), Checks.UNKNOWN);
            Checks.due("shut channel", x.shut(wild, 0, 1), Checks.UNKNOWN);
            Checks.due("shut side", x.shut(0, wild, 1), Checks.UNKNOWN);
            Checks.due("shut height", x.shut(0, 0, wild), Checks.HEADER);
            Checks.due("end channel", x.end(wild, 0, 0), Checks.UNKNOWN);
            Checks.due("end side", x.end(0, wild, 0), Checks.UNKNOWN);
            Checks.due("end what", x.end(0, 0, wild), Checks.OUTSIDE);
            Checks.due("stepAt channel", x.stepAt(wild, 0, 0), Checks.UNKNOWN);
            Checks.due("stepAt side", x.stepAt(0, wild, 0), Checks.UNKNOWN);
            Checks.due("stepAt height", x.stepAt(0, 0, wild), Checks.OUTSIDE);
        }
        Checks.due("the next channel", x.agree(1, 1), Checks.UNKNOWN);
        Checks.due("the next channel", x.close(1, 0), Checks.UNKNOWN);
        Checks.due("side 2", x.close(0, 2), Checks.UNKNOWN);
        Checks.due("side 2", x.shut(0, 2, 1), Checks.UNKNOWN);
    }
}
