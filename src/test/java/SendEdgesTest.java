/** Promises 13 and 19 at their bounds: one test for each sentence of the document that names one. */
public final class SendEdgesTest {
    private static final int[] NO_SIDES = {Integer.MIN_VALUE, -1, 2, 3, Integer.MAX_VALUE};
    private static final int[] NO_ACCOUNTS = {Integer.MIN_VALUE, -1, 4, 7, Integer.MAX_VALUE};
    /** Of one channel or one message, whose number is 0. */
    private static final int[] NO_NUMBERS = {Integer.MIN_VALUE, -1, 1, 4, 59, 60, Integer.MAX_VALUE};

    /** The side that sends, the one to which it goes, and the one that began the channel. */
    private final int from, at, first;
    /** HEIGHT of the side to which it goes, when the channel is OPEN: the sender's client follows it. */
    private final int known;

    private SendEdgesTest(int from, int first) {
        this.from = from;
        this.at = 1 - from;
        this.first = first;
        this.known = from == first ? 1 : 2;
    }

    public static void main(String[] args) {
        for (int i = 0; i < 4; i++) {
            new SendEdgesTest(i / 2, i % 2).all();
        }
        Checks.end();
    }

    private void all() {
        unknown();
        unknownIsFirst();
        outside();
        outsideIsSecond();
        edgesThatAreWithin();
        stateOfTheEnd();
        stateOfTheAccount();
        stateOfVouchers();
        stateIsThird();
        frozenClient();
        late();
        lateWithoutHeights();
        room();
        whatSendDoes();
        messageBounds();
        messageAnswers();
    }

    private void no(String what, Scenes.Play play, Scenes.Call call, int due) {
        Scenes.refused("from side " + from + ", begun at " + first + ", " + what, play, call, due);
    }

    private void is(String what, Scenes.Play play, Scenes.Call call, int due) {
        Scenes.answers("from side " + from + ", begun at " + first + ", " + what, play, call, due);
    }

    private static void nothing(BridgeClients x) {
    }

    private void open(BridgeClients x) {
        Checks.open(x, first, false);
    }

    private int sendHome(BridgeClients x, int amount, int until) {
        return x.send(0, from, 0, 0, from, amount, until);
    }

    private void oneSent(BridgeClients x) {
        open(x);
        Checks.quiet("send", sendHome(x, 10, 200), 0);
    }

    private void allSent(BridgeClients x) {
        open(x);
        Checks.quiet("send", sendHome(x, 1000, 200), 0);
    }

    private void frozen(BridgeClients x) {
        open(x);
        Checks.freeze(x, from, 1);
    }

    /** 60 messages, of one coin each. */
    private void full(BridgeClients x) {
        open(x);
        for (int i = 0; i < 60; i++) {
            Checks.quiet("number", sendHome(x, 1, 200), i);
        }
    }

    /** Account 2 has 30 VOUCHERS by channel 0; channel 1 is OPEN, too. */
    private void vouchers(BridgeClients x) {
        open(x);
        Checks.open(x, first, false);
        x.send(0, at, 0, 2, at, 30, 200);
        Checks.quiet("receive", x.receive(0, Checks.bring(x, at)), 1);
    }

    private static Scenes.Play ticks(int side, int times) {
        return x -> {
            for (int i = 0; i < times; i++) {
                x.tick(side);
            }
        };
    }

    // ---- promise 13

    private void unknown() {
        no("no channel yet", SendEdgesTest::nothing, x -> sendHome(x, 1, 200), Checks.UNKNOWN);
        for (int none : NO_NUMBERS) {
            no("channel " + none, this::open, x -> x.send(none, from, 0, 0, from, 1, 200), Checks.UNKNOWN);
        }
        for (int none : NO_SIDES) {
            no("side " + none, this::open, x -> x.send(0, none, 0, 0, from, 1, 200), Checks.UNKNOWN);
            no("coin " + none, this::open, x -> x.send(0, from, 0, 0, none, 1, 200), Checks.UNKNOWN);
        }
        for (int none : NO_ACCOUNTS) {
            no("account " + none, this::open, x -> x.send(0, from, none, 0, from, 1, 200), Checks.UNKNOWN);
        }
    }

    private void unknownIsFirst() {
        no("UNKNOWN before to", this::open, x -> x.send(1, from, 0, 8, from, 1, 200), Checks.UNKNOWN);
        no("UNKNOWN before amount", this::open, x -> x.send(0, 2, 0, 0, from, 0, 200), Checks.UNKNOWN);
        no("UNKNOWN before until", this::open, x -> x.send(0, from, 4, 0, from, 1, 201), Checks.UNKNOWN);
        no("a coin before amount", this::open, x -> x.send(0, from, 0, 0, 2, 1001, 200), Checks.UNKNOWN);
        no("UNKNOWN before STATE", this::allSent, x -> x.send(1, from, 0, 0, from, 1, 200), Checks.UNKNOWN);
        no("UNKNOWN before FROZEN", this::frozen, x -> x.send(0, from, -1, 0, from, 1, 200), Checks.UNKNOWN);
        no("UNKNOWN before LATE", this::open, x -> x.send(0, from, 0, 0, 2, 1, 1), Checks.UNKNOWN);
        no("UNKNOWN before ROOM", this::full, x -> x.send(1, from, 0, 0, from, 1, 200), Checks.UNKNOWN);
    }

    private void outside() {
        int[] noTo = {Integer.MIN_VALUE, -1, 8, 9, Integer.MAX_VALUE};
        for (int to : noTo) {
            no("to " + to, this::open, x -> x.send(0, from, 0, to, from, 1, 200), Checks.OUTSIDE);
        }
        int[] noAmount = {Integer.MIN_VALUE, -1, 0, 1001, Integer.MAX_VALUE};
        for (int amount : noAmount) {
            no("amount " + amount, this::open, x -> sendHome(x, amount, 200), Checks.OUTSIDE);
        }
        int[] noUntil = {Integer.MIN_VALUE, -1, 0, 201, Integer.MAX_VALUE};
        for (int until : noUntil) {
            no("until " + until, this::open, x -> sendHome(x, 1, until), Checks.OUTSIDE);
        }
    }

    private void outsideIsSecond() {
        Scenes.Play begun = x -> x.init(first, false, 1);
        no("OUTSIDE before STATE of the END", begun, x -> x.send(0, from, 0, 8, from, 1, 200), Checks.OUTSIDE);
        no("OUTSIDE before STATE of the account", this::allSent, x -> sendHome(x, 1001, 200), Checks.OUTSIDE);
        no("until before STATE", this::allSent, x -> sendHome(x, 1, 201), Checks.OUTSIDE);
        no("OUTSIDE before FROZEN", this::frozen, x -> sendHome(x, 0, 200), Checks.OUTSIDE);
        no("OUTSIDE before LATE", this::open, x -> sendHome(x, 0, 1), Checks.OUTSIDE);
        no("until 0 before LATE", this::open, x -> sendHome(x, 1, 0), Checks.OUTSIDE);
        no("OUTSIDE before ROOM", this::full, x -> x.send(0, from, 0, -1, from, 1, 200), Checks.OUTSIDE);
    }

    private void edgesThatAreWithin() {
        is("the least amount", this::open, x -> sendHome(x, 1, 200), 0);
        is("the greatest amount", this::open, x -> sendHome(x, 1000, 200), 0);
        is("the greatest until", this::open, x -> sendHome(x, 1, 200), 0);
        is("the least until that is not LATE", this::open, x -> sendHome(x, 1, known + 1), 0);
        for (int to = 0; to < 8; to++) {
            int told = to;
            is("to " + to, this::open, x -> x.send(0, from, 0, told, from, 1, 200), 0);
        }
        for (int account = 0; account < 4; account++) {
            int told = account;
            is("account " + account, this::open, x -> x.send(0, from, told, 0, from, 1000, 200), 0);
        }
    }

    private void stateOfTheEnd() {
        Scenes.Play begun = x -> x.init(from, false, 7);
        no("no STEP yet", begun, x -> x.send(0, at, 0, 0, at, 1, 200), Checks.STATE);
        no("INIT", begun, x -> sendHome(x, 1, 200), Checks.STATE);
        Scenes.Play met = Scenes.then(begun, x -> x.meet(0, 7, Checks.bring(x, from)));
        no("TRY", met, x -> x.send(0, at, 0, 0, at, 1, 200), Checks.STATE);
        Scenes.Play agreed = Scenes.then(met, x -> x.agree(0, Checks.bring(x, at)));
        is("OPEN, TRY at the other side", agreed, x -> sendHome(x, 1, 200), 0);
        no("TRY at this side, OPEN at the other", agreed, x -> x.send(0, at, 0, 0, at, 1, 200), Checks.STATE);
        no("CLOSED", Scenes.then(this::open, x -> x.close(0, from)), x -> sendHome(x, 1, 200), Checks.STATE);
        is("CLOSED at the other side", Scenes.then(this::open, x -> x.close(0, at)), x -> sendHome(x, 1, 200), 0);
    }

    private void stateOfTheAccount() {
        Scenes.Play most = Scenes.then(this::open, x -> sendHome(x, 999, 200));
        is("all that it has", most, x -> sendHome(x, 1, 200), 1);
        no("one more than it has", most, x -> sendHome(x, 2, 200), Checks.STATE);
        no("it has nothing", this::allSent, x -> sendHome(x, 1, 200), Checks.STATE);
        no("it has nothing, of the greatest amount", this::allSent, x -> sendHome(x, 1000, 200), Checks.STATE);
        is("another account has all", this::allSent, x -> x.send(0, from, 3, 0, from, 1000, 200), 1);
        is("its account at the other side has all", this::allSent, x -> x.send(0, at, 0, 0, at, 1000, 200), 1);
    }

    private void stateOfVouchers() {
        no("no VOUCHERS yet", this::open, x -> x.send(0, from, 0, 0, at, 1, 200), Checks.STATE);
        is("all VOUCHERS", this::vouchers, x -> x.send(0, from, 2, 0, at, 30, 200), 1);
        no("one more", this::vouchers, x -> x.send(0, from, 2, 0, at, 31, 200), Checks.STATE);
        no("VOUCHERS of another channel", this::vouchers, x -> x.send(1, from, 2, 0, at, 1, 200), Checks.STATE);
        no("VOUCHERS of another account", this::vouchers, x -> x.send(0, from, 0, 0, at, 1, 200), Checks.STATE);
        Scenes.Play gone = Scenes.then(this::vouchers, x -> x.send(0, from, 2, 0, at, 30, 200));
        no("VOUCHERS that are no more", gone, x -> x.send(0, from, 2, 0, at, 1, 200), Checks.STATE);
        is("they are no more", gone, x -> x.vouchers(0, from, 2), 0);
        is("no ESCROW of them", gone, x -> x.end(0, from, 3), 0);
    }

    private void stateIsThird() {
        Scenes.Play frozenAndSpent = Scenes.then(this::allSent, x -> Checks.freeze(x, from, 1));
        no("STATE before FROZEN", frozenAndSpent, x -> sendHome(x, 1, 200), Checks.STATE);
        Scenes.Play frozenAndClosed = Scenes.then(this::frozen, x -> x.close(0, from));
        no("STATE of the END before FROZEN", frozenAndClosed, x -> sendHome(x, 1, 200), Checks.STATE);
        no("STATE before LATE", this::allSent, x -> sendHome(x, 1, 1), Checks.STATE);
        no("STATE before ROOM", this::full, x -> sendHome(x, 941, 200), Checks.STATE);
        no("STATE of the END before ROOM", Scenes.then(this::full, x -> x.close(0, from)), x -> sendHome(x, 1, 200),
            Checks.STATE);
    }

    private void frozenClient() {
        no("FROZEN", this::frozen, x -> sendHome(x, 1, 200), Checks.FROZEN);
        no("FROZEN before LATE", this::frozen, x -> sendHome(x, 1, 1), Checks.FROZEN);
        Scenes.Play fullAndFrozen = Scenes.then(this::full, x -> Checks.freeze(x, from, 1));
        no("FROZEN before ROOM", fullAndFrozen, x -> sendHome(x, 1, 200), Checks.FROZEN);
        is("the other client may be FROZEN", Scenes.then(this::open, x -> Checks.freeze(x, at, 1)),
            x -> sendHome(x, 1, 200), 0);
        is("renewed", Scenes.then(this::frozen, x -> x.renew(from)), x -> sendHome(x, 1, 200), 0);
    }

    private void late() {
        no("until is the greatest that is followed", this::open, x -> sendHome(x, 1, known), Checks.LATE);
        no("until is the least", this::open, x -> sendHome(x, 1, 1), Checks.LATE);
        Scenes.Play higher = Scenes.then(Scenes.then(this::open, ticks(at, 5)), x -> x.follow(from, known + 4, 0));
        no("a higher one is followed", higher, x -> sendHome(x, 1, known + 1), Checks.LATE);
        no("the next lower one", higher, x -> sendHome(x, 1, known + 3), Checks.LATE);
        no("that one", higher, x -> sendHome(x, 1, known + 4), Checks.LATE);
        is("the next higher one, which there is", higher, x -> sendHome(x, 1, known + 5), 0);
        Scenes.Play falsely = Scenes.then(Scenes.then(this::open, ticks(at, 5)), x -> x.follow(from, known + 4, 1));
        no("it is followed by a false MARK", falsely, x -> sendHome(x, 1, known + 4), Checks.LATE);
        is("the next higher one", falsely, x -> sendHome(x, 1, known + 5), 0);
        Scenes.Play unfollowed = Scenes.then(this::open, ticks(at, 5));
        is("HEIGHT there alone makes nothing LATE", unfollowed, x -> sendHome(x, 1, known + 1), 0);
        Scenes.Play greatest = Scenes.then(Scenes.then(this::open, ticks(at, 200 - known)), x -> x.follow(from, 200, 0));
        no("until 200 when 200 is followed", greatest, x -> sendHome(x, 1, 200), Checks.LATE);
        Scenes.Play below = Scenes.then(Scenes.then(this::open, ticks(at, 200 - known)), x -> x.follow(from, 199, 0));
        is("until 200 when 199 is followed", below, x -> sendHome(x, 1, 200), 0);
        no("LATE before ROOM", this::full, x -> sendHome(x, 1, known), Checks.LATE);
    }

    private void lateWithoutHeights() {
        Scenes.Play renewed = Scenes.then(this::frozen, x -> x.renew(from));
        is("the least until of a client that follows nothing", renewed, x -> sendHome(x, 1, 1), 0);
        Scenes.Play one = Scenes.then(renewed, x -> x.follow(from, 1, 0));
        no("it follows 1", one, x -> sendHome(x, 1, 1), Checks.LATE);
        is("it follows 1 alone", one, x -> sendHome(x, 1, 2), 0);
    }

    private void room() {
        Scenes.Play most = x -> {
            open(x);
            for (int i = 0; i < 59; i++) {
                sendHome(x, 1, 200);
            }
        };
        is("the last message that there is room for", most, x -> sendHome(x, 1, 200), 59);
        no("the next message", this::full, x -> sendHome(x, 1, 200), Checks.ROOM);
        no("the next message at the other side", this::full, x -> x.send(0, at, 0, 0, at, 1, 200), Checks.ROOM);
        Scenes.Play ended = Scenes.then(this::full, x -> {
            x.receive(0, Checks.bring(x, from));
            x.acknowledge(0, Checks.bring(x, at));
        });
        is("one of them STANDS no more", ended, x -> x.count(4), 59);
        no("an acknowledged one leaves no room", ended, x -> sendHome(x, 1, 200), Checks.ROOM);
        is("a cleared object has room", Scenes.then(Scenes.then(this::full, BridgeClients::clear), this::open),
            x -> sendHome(x, 1, 200), 0);
    }

    private void whatSendDoes() {
        is("the account", this::oneSent, x -> x.balance(from, 0, from), 990);
        is("another account", this::oneSent, x -> x.balance(from, 1, from), 1000);
        is("the ESCROW of its END", this::oneSent, x -> x.end(0, from, 3), 10);
        is("the ESCROW of the other END", this::oneSent, x -> x.end(0, at, 3), 0);
        is("how many were sent", this::oneSent, x -> x.end(0, from, 4), 1);
        is("how many were sent there", this::oneSent, x -> x.end(0, at, 4), 0);
        is("how many were received there", this::oneSent, x -> x.end(0, at, 5), 0);
        is("it STANDS", this::oneSent, x -> x.count(4), 1);
    }

    // ---- promise 19

    private void messageBounds() {
        no("no message yet", this::open, x -> x.message(0, 0), Checks.UNKNOWN);
        for (int none : NO_NUMBERS) {
            no("message " + none, this::oneSent, x -> x.message(none, 0), Checks.UNKNOWN);
            no("UNKNOWN before OUTSIDE, message " + none, this::oneSent, x -> x.message(none, 11), Checks.UNKNOWN);
        }
        int[] outside = {Integer.MIN_VALUE, -1, 11, 12, Integer.MAX_VALUE};
        for (int what : outside) {
            no("message, what " + what, this::oneSent, x -> x.message(0, what), Checks.OUTSIDE);
        }
        is("the last message that there is room for", this::full, x -> x.message(59, 2), 59);
        no("the one after it", this::full, x -> x.message(60, 2), Checks.UNKNOWN);
    }

    private void messageIs(String text, Scenes.Play play, int message, int... due) {
        for (int asked = 0; asked < due.length; asked++) {
            int what = asked;
            is(text + ", message " + message + ", what " + what, play, x -> x.message(message, what), due[what]);
        }
    }

    private void messageAnswers() {
        Scenes.Play two = Scenes.then(this::open, x -> {
            Checks.open(x, at, true);
            x.send(1, from, 3, 7, from, 1000, 200);
            x.send(1, at, 0, 0, at, 1, 200);
            x.send(1, from, 0, 3, from, 1, 199);
        });
        messageIs("the greatest numbers", two, 0, 1, from, 0, 1000, from, 3, 7, 200, 1, 0, 0);
        messageIs("the first one of the other END", two, 1, 1, at, 0, 1, at, 0, 0, 200, 1, 0, 0);
        messageIs("the second one of its END", two, 2, 1, from, 1, 1, from, 0, 3, 199, 1, 0, 0);
        Scenes.Play received = Scenes.then(two, x -> {
            int height = Checks.bring(x, from);
            Checks.quiet("it FAILED", x.receive(0, height), 0);
            Checks.quiet("well", x.receive(2, height), 1);
        });
        messageIs("it FAILED, and STANDS yet", received, 0, 1, from, 0, 1000, from, 3, 7, 200, 1, 2, 0);
        messageIs("well, and STANDS yet", received, 2, 1, from, 1, 1, from, 0, 3, 199, 1, 1, 0);
        Scenes.Play ended = Scenes.then(received, x -> {
            int height = Checks.bring(x, at);
            Checks.quiet("acknowledge", x.acknowledge(0, height), 0);
            Checks.quiet("acknowledge", x.acknowledge(2, height), 1);
        });
        messageIs("it FAILED, and is back", ended, 0, 1, from, 0, 1000, from, 3, 7, 200, 0, 2, 1);
        messageIs("well, and is over", ended, 2, 1, from, 1, 1, from, 0, 3, 199, 0, 1, 0);
        Scenes.Play timedOut = Scenes.then(this::open, x -> {
            sendHome(x, 5, known + 1);
            Checks.quiet("timeout", x.timeout(0, Checks.bring(x, at)), 5);
        });
        messageIs("its time was over", timedOut, 0, 0, from, 0, 5, from, 0, 0, known + 1, 0, 0, 1);
    }
}
