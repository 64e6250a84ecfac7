/**
 * Long runs of mixed calls, each answer compared with PlainBridge's. After each call that may change
 * something all that can be asked is asked, so a refusal that changes anything is seen, too.
 */
public final class RandomRunsTest {
    private static final int RUNS = 600, CALLS = 512;
    private static final int CHANGING = 14;
    private static final String[] NAMES = {"tick", "follow", "renew", "init", "meet", "agree", "confirm", "close",
        "shut", "send", "receive", "acknowledge", "timeout", "clear"};
    /** How often each call is made, of the sum of all. */
    private static final int[] WEIGHTS = {50, 70, 15, 8, 12, 12, 12, 1, 4, 110, 90, 70, 20, 0};

    /** How often each call had each answer: 0 for no refusal, else the refusal without its sign. */
    private static final int[][] SEEN = new int[CHANGING][11];

    private final BridgeClients x = new BridgeClients();
    private PlainBridge plain = new PlainBridge();
    private final int run;
    private long seed;
    private boolean wild;
    private String call = "";

    private RandomRunsTest(int run) {
        this.run = run;
        this.seed = run * 7919L + 17;
    }

    public static void main(String[] args) {
        for (int run = 0; run < RUNS && !Checks.isAnyWrong(); run++) {
            new RandomRunsTest(run).go();
        }
        if (!Checks.isAnyWrong()) {
            everyRefusalWasSeen();
        }
        Checks.end();
    }

    /** A run that never comes to a refusal says nothing about it. */
    private static void everyRefusalWasSeen() {
        int[][] listed = {{1, 10}, {1, 2, 3, 4}, {1, 3}, {1, 2, 10}, {1, 2, 3, 4, 5, 6, 9}, {1, 3, 4, 5, 6},
            {1, 3, 4, 5, 6}, {1, 3}, {1, 3, 4, 5, 6}, {1, 2, 3, 4, 7, 10}, {1, 3, 4, 5, 6, 7, 8},
            {1, 3, 4, 5, 6, 8}, {1, 3, 4, 5, 6, 7}, {}};
        for (int kind = 0; kind < CHANGING; kind++) {
            int[] due = new int[11];
            due[0] = 1;
            for (int refusal : listed[kind]) {
                due[refusal] = 1;
            }
            for (int answer = 0; answer < 11; answer++) {
                Checks.due(NAMES[kind] + " ever refused by -" + answer, Math.min(SEEN[kind][answer], 1), due[answer]);
            }
        }
    }

    private int below(int bound) {
        seed = seed * 6364136223846793005L + 1442695040888963407L;
        return (int) ((seed >>> 33) % bound);
    }

    /** Most often within the bounds, now and then beside them or far from them. */
    private int pick(int least, int most) {
        if (wild && below(6) == 0) {
            return Checks.WILD[below(Checks.WILD.length)];
        }
        if (below(60) == 0) {
            return below(2) == 0 ? least - 1 : most + 1;
        }
        return least + below(Math.max(most - least + 1, 1));
    }

    /** A height of the other side, by which something may be PROVED at this one. */
    private int height(int side) {
        if (below(4) == 0) {
            return pick(1, plain.height(1 - side & 1));
        }
        return plain.greatest(side & 1) - below(2);
    }

    private int newHeight(int side) {
        return below(4) == 0 ? pick(1, plain.height(side & 1)) : plain.height(side & 1) - below(2);
    }

    private void go() {
        int begun = 0;
        if (run % 3 != 0) {
            begun = openBoth(0, run % 2 == 0) + openBoth(1, run % 4 == 0);
        }
        if (run % 10 == 9) {
            begun += tickOften(run % 2);
        }
        for (int i = begun; i < CALLS && !Checks.isAnyWrong(); i++) {
            wild = below(40) == 0;
            int kind = run % 5 == 0 && below(200) == 0 ? 13 : kind();
            int want = make(kind);
            SEEN[kind][want < 0 ? -want : 0]++;
            askAll();
        }
    }

    /** Random calls alone seldom come to a channel that is OPEN at both ENDS: how many calls it took. */
    private int openBoth(int first, boolean ordered) {
        same("init", x.init(first, ordered, 7), plain.init(first, ordered, 7));
        int channel = plain.first.size() - 1;
        bring(first);
        makeMeet(channel, 3, plain.height(first));
        bring(1 - first);
        makeAgree(channel, plain.height(1 - first));
        bring(first);
        makeConfirm(channel, plain.height(first));
        return 10;
    }

    private void bring(int side) {
        same("tick", x.tick(side), plain.tick(side));
        makeFollow(1 - side, plain.height(side), 0);
    }

    private int tickOften(int side) {
        for (int i = 0; i < 190; i++) {
            same("tick", x.tick(side), plain.tick(side));
        }
        return 190;
    }

    private int kind() {
        int all = 0;
        for (int weight : WEIGHTS) {
            all += weight;
        }
        int left = below(all);
        int kind = 0;
        while (left >= WEIGHTS[kind]) {
            left -= WEIGHTS[kind];
            kind++;
        }
        return kind;
    }

    private int same(String made, int got, int want) {
        call = made;
        Checks.due("run " + run + ": " + made, got, want);
        return want;
    }

    private int make(int kind) {
        int side = pick(0, 1);
        int channel = pick(0, plain.first.size() - 1);
        switch (kind) {
            case 0: return same("tick " + side, x.tick(side), plain.tick(side));
            case 1: return makeFollow(side, newHeight(1 - side), below(40) == 0 ? pick(0, 9) : 0);
            case 2: return same("renew " + side, x.renew(side), plain.renew(side));
            case 3: return makeInit(side, pick(1, 7));
            case 4: return makeMeet(channel, pick(1, 7), height(1 - beginner(channel)));
            case 5: return makeAgree(channel, height(beginner(channel)));
            case 6: return makeConfirm(channel, height(1 - beginner(channel)));
            case 7: return same("close " + channel + " " + side, x.close(channel, side), plain.close(channel, side));
            case 8: return makeShut(channel, side, height(side));
            case 9: return makeSend(channel, side, pick(0, 3));
            case 10: case 11: case 12: return makeOfMessage(kind, messageNumber());
            default: return makeClear();
        }
    }

    private int beginner(int channel) {
        return channel >= 0 && channel < plain.first.size() ? plain.first.get(channel) : 0;
    }

    private int messageNumber() {
        int size = plain.sent.size();
        return below(3) == 0 ? pick(0, size - 1) : pick(Math.max(size - 5, 0), size - 1);
    }

    private int makeFollow(int side, int height, int mark) {
        return same("follow " + side + " " + height + " " + mark, x.follow(side, height, mark),
            plain.follow(side, height, mark));
    }

    private int makeInit(int side, int offer) {
        boolean ordered = below(2) == 0;
        return same("init " + side + " " + offer, x.init(side, ordered, offer), plain.init(side, ordered, offer));
    }

    private int makeMeet(int channel, int offer, int height) {
        return same("meet " + channel + " " + offer + " " + height, x.meet(channel, offer, height),
            plain.meet(channel, offer, height));
    }

    private int makeAgree(int channel, int height) {
        return same("agree " + channel + " " + height, x.agree(channel, height), plain.agree(channel, height));
    }

    private int makeConfirm(int channel, int height) {
        return same("confirm " + channel + " " + height, x.confirm(channel, height), plain.confirm(channel, height));
    }

    private int makeShut(int channel, int side, int height) {
        return same("shut " + channel + " " + side + " " + height, x.shut(channel, side, height),
            plain.shut(channel, side, height));
    }

    private int makeSend(int channel, int side, int account) {
        int to = pick(0, 5);
        int coin = below(3) == 0 ? pick(0, 1) : side;
        int amount = below(9) == 0 ? pick(1, 1000) : pick(1, 30);
        int until = below(8) == 0 ? pick(1, 200) : plain.height(1 - side & 1) + below(20);
        return same("send " + channel + " " + side + " " + account + " " + to + " " + coin + " " + amount + " " + until,
            x.send(channel, side, account, to, coin, amount, until),
            plain.send(channel, side, account, to, coin, amount, until));
    }

    private int makeOfMessage(int kind, int message) {
        boolean known = message >= 0 && message < plain.sent.size();
        int sender = known ? plain.sent.get(message).side : 0;
        int height = height(kind == 10 ? 1 - sender : sender);
        String made = NAMES[kind] + " " + message + " " + height;
        if (kind == 10) {
            return same(made, x.receive(message, height), plain.receive(message, height));
        }
        if (kind == 11) {
            return same(made, x.acknowledge(message, height), plain.acknowledge(message, height));
        }
        return same(made, x.timeout(message, height), plain.timeout(message, height));
    }

    private int makeClear() {
        int want = plain.sent.size();
        plain = new PlainBridge();
        return same("clear", x.clear(), want);
    }

    private void askAll() {
        for (int what = -1; what <= 5; what++) {
            check("count", x.count(what), plain.count(what));
        }
        for (int side = -1; side <= 2; side++) {
            askSide(side);
            for (int channel = -1; channel <= plain.first.size(); channel++) {
                askEnd(channel, side);
            }
        }
        for (int message = -1; message <= plain.sent.size(); message++) {
            for (int what = -1; what <= 11; what++) {
                check("message", x.message(message, what), plain.message(message, what));
            }
        }
        for (int coin = 0; coin < 2; coin++) {
            check("as much of the coin as ever", x.sum(coin, 0) + x.sum(coin, 1), 4000);
            check("an ESCROW for all that is out", x.sum(coin, 2) + x.sum(coin, 3), x.sum(coin, 1));
        }
    }

    private void askSide(int side) {
        for (int what = -1; what <= 3; what++) {
            check("client", x.client(side, what), plain.client(side, what));
        }
        for (int what = -1; what <= 4; what++) {
            check("sum", x.sum(side, what), plain.sum(side, what));
        }
        int height = below(202);
        check("follows", x.follows(side, height), plain.follows(side, height));
        for (int account = -1; account <= 4; account++) {
            for (int coin = -1; coin <= 2; coin++) {
                check("balance", x.balance(side, account, coin), plain.balance(side, account, coin));
            }
        }
    }

    private void askEnd(int channel, int side) {
        for (int what = -1; what <= 7; what++) {
            check("end", x.end(channel, side, what), plain.end(channel, side, what));
        }
        for (int account = -1; account <= 4; account++) {
            check("vouchers", x.vouchers(channel, side, account), plain.vouchers(channel, side, account));
        }
        int height = pick(0, plain.height(side & 1));
        check("stepAt", x.stepAt(channel, side, height), plain.stepAt(channel, side, height));
    }

    /** The text is made only when it is needed: most answers are right. */
    private void check(String what, int got, int want) {
        if (got != want) {
            Checks.due("run " + run + ", after " + call + ": " + what, got, want);
        }
    }
}
