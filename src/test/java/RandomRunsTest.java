import java.util.ArrayList;
import java.util.List;

/**
 * Runs of mixed calls, each answer compared with PlainBridge's, up to the 512th call of an object. At
 * many places of a run all that can be asked is asked: of objects made anew and played to that place,
 * as an object is promised for 512 calls alone.
 */
public final class RandomRunsTest {
    private static final int RUNS = 1200, CALLS = 512;
    private static final int LOOK_EVERY = 16, LOOK_UNTIL = 400;
    private static final int CHANGING = 14, QUESTIONS = 9;
    private static final String[] NAMES = {"tick", "follow", "renew", "init", "meet", "agree", "confirm", "close",
        "shut", "send", "receive", "acknowledge", "timeout", "clear"};
    /** How often each call is made, of the sum of all. */
    private static final int[] WEIGHTS = {50, 70, 15, 8, 12, 12, 12, 1, 4, 110, 90, 70, 20, 0};

    /** How often each call had each answer: 0 for no refusal, else the refusal without its sign. */
    private static final int[][] SEEN = new int[CHANGING][11];

    private record Question(String text, Scenes.Call call, int due) {
    }

    private final BridgeClients x = new BridgeClients();
    private final List<Scenes.Call> made = new ArrayList<>();
    private final List<Question> questions = new ArrayList<>();
    private PlainBridge plain = new PlainBridge();
    private final int run;
    private long seed;
    private boolean wild;
    private String last = "";

    private RandomRunsTest(int run) {
        this.run = run;
        this.seed = run * 7919L + 17;
    }

    public static void main(String[] args) {
        for (int run = 0; run < RUNS && !Checks.isAnyWrong(); run++) {
            new RandomRunsTest(run).go();
        }
        if (!Checks.isAnyWrong()) {
            everyRefusalWasSeen();
        }
        Checks.end();
    }

    /** A run that never comes to a refusal says nothing about it. */
    private static void everyRefusalWasSeen() {
        int[][] listed = {{1, 10}, {1, 2, 3, 4}, {1, 3}, {1, 2, 10}, {1, 2, 3, 4, 5, 6, 9}, {1, 3, 4, 5, 6},
            {1, 3, 4, 5, 6}, {1, 3}, {1, 3, 4, 5, 6}, {1, 2, 3, 4, 7, 10}, {1, 3, 4, 5, 6, 7, 8},
            {1, 3, 4, 5, 6, 8}, {1, 3, 4, 5, 6, 7}, {}};
        for (int kind = 0; kind < CHANGING; kind++) {
            int[] due = new int[11];
            due[0] = 1;
            for (int refusal : listed[kind]) {
                due[refusal] = 1;
            }
            for (int answer = 0; answer < 11; answer++) {
                Checks.due(NAMES[kind] + " ever refused by -" + answer, Math.min(SEEN[kind][answer], 1), due[answer]);
            }
        }
    }

    // ---- a run

    private void go() {
        if (run % 3 != 0) {
            openBoth(0, run % 2 == 0);
            openBoth(1, run % 4 == 0);
        }
        for (int i = 0; run % 10 == 9 && i < 190; i++) {
            makeTick(run % 2);
        }
        while (made.size() < CALLS && !Checks.isAnyWrong()) {
            wild = below(40) == 0;
            if (below(10) == 0) {
                askOne(below(QUESTIONS));
            } else {
                int kind = run % 5 == 0 && below(200) == 0 ? 13 : kind();
                int due = make(kind);
                SEEN[kind][due < 0 ? -due : 0]++;
            }
            if (made.size() % LOOK_EVERY == 0 && made.size() <= LOOK_UNTIL) {
                lookAround();
            }
        }
    }

    /** Random calls alone seldom come to a channel that is OPEN at both ENDS. */
    private void openBoth(int first, boolean ordered) {
        makeInit(first, ordered, 7);
        int channel = plain.first.size() - 1;
        bring(first);
        makeMeet(channel, 3, plain.height(first));
        bring(1 - first);
        makeAgree(channel, plain.height(1 - first));
        bring(first);
        makeConfirm(channel, plain.height(first));
    }

    private void bring(int side) {
        makeTick(side);
        makeFollow(1 - side, plain.height(side), 0);
    }

    private int same(String text, Scenes.Call call, int due) {
        last = text;
        made.add(call);
        Checks.due("run " + run + ", call " + made.size() + ": " + text, call.on(x), due);
        return due;
    }

    // ---- what is picked

    private int below(int bound) {
        seed = seed * 6364136223846793005L + 1442695040888963407L;
        return (int) ((seed >>> 33) % bound);
    }

    /** Most often within the bounds, now and then beside them or far from them. */
    private int pick(int least, int most) {
        if (wild && below(6) == 0) {
            return Checks.WILD[below(Checks.WILD.length)];
        }
        if (below(60) == 0) {
            return below(2) == 0 ? least - 1 : most + 1;
        }
        return least + below(Math.max(most - least + 1, 1));
    }

    private int pickChannel() {
        return pick(0, plain.first.size() - 1);
    }

    private int pickMessage() {
        int size = plain.sent.size();
        return below(3) == 0 ? pick(0, size - 1) : pick(Math.max(size - 5, 0), size - 1);
    }

    /** A height of the other side, by which something may be PROVED at this one. */
    private int pickProof(int side) {
        if (below(4) == 0) {
            return pick(1, plain.height(1 - side & 1));
        }
        return plain.greatest(side & 1) - below(2);
    }

    private int pickNewHeight(int side) {
        return below(4) == 0 ? pick(1, plain.height(side & 1)) : plain.height(side & 1) - below(2);
    }

    private int kind() {
        int all = 0;
        for (int weight : WEIGHTS) {
            all += weight;
        }
        int left = below(all);
        int kind = 0;
        while (left >= WEIGHTS[kind]) {
            left -= WEIGHTS[kind];
            kind++;
        }
        return kind;
    }

    private int beginner(int channel) {
        return channel >= 0 && channel < plain.first.size() ? plain.first.get(channel) : 0;
    }

    // ---- calls that may change something

    private int make(int kind) {
        int side = pick(0, 1);
        int channel = pickChannel();
        switch (kind) {
            case 0: return makeTick(side);
            case 1: return makeFollow(side, pickNewHeight(1 - side), below(40) == 0 ? pick(0, 9) : 0);
            case 2: return same("renew " + side, b -> b.renew(side), plain.renew(side));
            case 3: return makeInit(side, below(2) == 0, pick(1, 7));
            case 4: return makeMeet(channel, pick(1, 7), pickProof(1 - beginner(channel)));
            case 5: return makeAgree(channel, pickProof(beginner(channel)));
            case 6: return makeConfirm(channel, pickProof(1 - beginner(channel)));
            case 7: return same("close " + channel + " " + side, b -> b.close(channel, side), plain.close(channel, side));
            case 8: return makeShut(channel, side, pickProof(side));
            case 9: return makeSend(channel, side, pick(0, 3));
            case 10: case 11: case 12: return makeOfMessage(kind, pickMessage());
            default: return makeClear();
        }
    }

    private int makeTick(int side) {
        return same("tick " + side, b -> b.tick(side), plain.tick(side));
    }

    private int makeFollow(int side, int height, int mark) {
        return same("follow " + side + " " + height + " " + mark, b -> b.follow(side, height, mark),
            plain.follow(side, height, mark));
    }

    private int makeInit(int side, boolean ordered, int offer) {
        return same("init " + side + " " + ordered + " " + offer, b -> b.init(side, ordered, offer),
            plain.init(side, ordered, offer));
    }

    private int makeMeet(int channel, int offer, int height) {
        return same("meet " + channel + " " + offer + " " + height, b -> b.meet(channel, offer, height),
            plain.meet(channel, offer, height));
    }

    private int makeAgree(int channel, int height) {
        return same("agree " + channel + " " + height, b -> b.agree(channel, height), plain.agree(channel, height));
    }

    private int makeConfirm(int channel, int height) {
        return same("confirm " + channel + " " + height, b -> b.confirm(channel, height),
            plain.confirm(channel, height));
    }

    private int makeShut(int channel, int side, int height) {
        return same("shut " + channel + " " + side + " " + height, b -> b.shut(channel, side, height),
            plain.shut(channel, side, height));
    }

    private int makeSend(int channel, int side, int account) {
        int to = pick(0, 5);
        int coin = below(3) == 0 ? pick(0, 1) : side;
        int amount = below(9) == 0 ? pick(1, 1000) : pick(1, 30);
        int until = below(8) == 0 ? pick(1, 200) : plain.height(1 - side & 1) + below(20);
        return same("send " + channel + " " + side + " " + account + " " + to + " " + coin + " " + amount + " " + until,
            b -> b.send(channel, side, account, to, coin, amount, until),
            plain.send(channel, side, account, to, coin, amount, until));
    }

    private int makeOfMessage(int kind, int message) {
        boolean known = message >= 0 && message < plain.sent.size();
        int sender = known ? plain.sent.get(message).side : 0;
        int height = pickProof(kind == 10 ? 1 - sender : sender);
        String text = NAMES[kind] + " " + message + " " + height;
        if (kind == 10) {
            return same(text, b -> b.receive(message, height), plain.receive(message, height));
        }
        if (kind == 11) {
            return same(text, b -> b.acknowledge(message, height), plain.acknowledge(message, height));
        }
        return same(text, b -> b.timeout(message, height), plain.timeout(message, height));
    }

    private int makeClear() {
        int due = plain.sent.size();
        plain = new PlainBridge();
        return same("clear", BridgeClients::clear, due);
    }

    // ---- questions: one of them as a call of the run, or all of them

    private void askOne(int kind) {
        questions.clear();
        int side = pick(0, 1);
        switch (kind) {
            case 0: askCount(pick(0, 4)); break;
            case 1: askClient(side, pick(0, 2)); break;
            case 2: askFollows(side, pick(1, 200)); break;
            case 3: askEnd(pickChannel(), side, pick(0, 6)); break;
            case 4: askStepAt(pickChannel(), side, pick(0, plain.height(side & 1))); break;
            case 5: askMessage(pickMessage(), pick(0, 10)); break;
            case 6: askBalance(side, pick(0, 3), pick(0, 1)); break;
            case 7: askVouchers(pickChannel(), side, pick(0, 3)); break;
            default: askSum(side, pick(0, 3)); break;
        }
        Question question = questions.get(0);
        same(question.text, question.call, question.due);
    }

    private void lookAround() {
        questions.clear();
        askAll();
        int atOnce = CALLS - made.size();
        for (int from = 0; from < questions.size(); from += atOnce) {
            BridgeClients again = playedAgain();
            for (Question question : questions.subList(from, Math.min(from + atOnce, questions.size()))) {
                check(question.text, question.call.on(again), question.due);
            }
        }
        asMuchAsEver(playedAgain());
    }

    private BridgeClients playedAgain() {
        BridgeClients again = new BridgeClients();
        for (Scenes.Call call : made) {
            call.on(again);
        }
        return again;
    }

    /** The text is made only when it is needed: most answers are right. */
    private void check(String what, int got, int due) {
        if (got != due) {
            Checks.due("run " + run + ", call " + made.size() + ", after " + last + ": " + what, got, due);
        }
    }

    private void askAll() {
        for (int what = -1; what <= 5; what++) {
            askCount(what);
        }
        for (int side = -1; side <= 2; side++) {
            askAllOfSide(side);
            for (int channel = -1; channel <= plain.first.size(); channel++) {
                askAllOfEnd(channel, side);
            }
        }
        for (int message = -1; message <= plain.sent.size(); message++) {
            for (int what = -1; what <= 11; what++) {
                askMessage(message, what);
            }
        }
    }

    private void askAllOfSide(int side) {
        for (int what = -1; what <= 4; what++) {
            askClient(side, what);
            askSum(side, what);
        }
        askFollows(side, below(202));
        for (int account = -1; account <= 4; account++) {
            for (int coin = -1; coin <= 2; coin++) {
                askBalance(side, account, coin);
            }
        }
    }

    private void askAllOfEnd(int channel, int side) {
        for (int what = -1; what <= 7; what++) {
            askEnd(channel, side, what);
        }
        for (int account = -1; account <= 4; account++) {
            askVouchers(channel, side, account);
        }
        askStepAt(channel, side, pick(0, plain.height(side & 1)));
    }

    private void askCount(int what) {
        questions.add(new Question("count", b -> b.count(what), plain.count(what)));
    }

    private void askClient(int side, int what) {
        questions.add(new Question("client", b -> b.client(side, what), plain.client(side, what)));
    }

    private void askFollows(int side, int height) {
        questions.add(new Question("follows", b -> b.follows(side, height), plain.follows(side, height)));
    }

    private void askEnd(int channel, int side, int what) {
        questions.add(new Question("end", b -> b.end(channel, side, what), plain.end(channel, side, what)));
    }

    private void askStepAt(int channel, int side, int height) {
        questions.add(new Question("stepAt", b -> b.stepAt(channel, side, height), plain.stepAt(channel, side, height)));
    }

    private void askMessage(int message, int what) {
        questions.add(new Question("message", b -> b.message(message, what), plain.message(message, what)));
    }

    private void askBalance(int side, int account, int coin) {
        questions.add(new Question("balance", b -> b.balance(side, account, coin), plain.balance(side, account, coin)));
    }

    private void askVouchers(int channel, int side, int account) {
        questions.add(new Question("vouchers", b -> b.vouchers(channel, side, account),
            plain.vouchers(channel, side, account)));
    }

    private void askSum(int coin, int what) {
        questions.add(new Question("sum", b -> b.sum(coin, what), plain.sum(coin, what)));
    }

    // ---- what holds in every state, whatever PlainBridge says

    private void asMuchAsEver(BridgeClients again) {
        for (int coin = 0; coin < 2; coin++) {
            int escrows = again.sum(coin, 1);
            check("as much of the coin as ever", again.sum(coin, 0) + escrows, 4000);
            check("an ESCROW for all that is out", again.sum(coin, 2) + again.sum(coin, 3), escrows);
            for (int channel = 0; channel < plain.first.size(); channel++) {
                check("the ESCROW always has as much", escrowLeft(again, channel, coin), 0);
            }
        }
    }

    /** What an ESCROW has beyond the VOUCHERS and the messages that it stands for. */
    private int escrowLeft(BridgeClients again, int channel, int coin) {
        int left = again.end(channel, coin, 3);
        for (int account = 0; account < 4; account++) {
            left -= again.vouchers(channel, 1 - coin, account);
        }
        for (PlainBridge.Sent sent : plain.sent) {
            boolean underWay = sent.outcome != 1 && !sent.cameBack;
            left -= underWay && sent.channel == channel && sent.coin == coin ? sent.amount : 0;
        }
        return left;
    }
}
