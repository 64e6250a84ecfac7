/** Promises 14 to 16 at their bounds: one test for each sentence of the document that names one. */
public final class MessageEdgesTest {
    /** Of two messages, whose numbers are 0 and 1. */
    private static final int[] NO_MESSAGES = {Integer.MIN_VALUE, -1, 2, 59, 60, Integer.MAX_VALUE};
    /** Never followed, whatever the HEIGHT is. */
    private static final int[] NO_HEIGHTS = {Integer.MIN_VALUE, -1, 0, 201, Integer.MAX_VALUE};

    /** The side that sends, the one to which it goes, and the one that began the channel. */
    private final int from, at, first;
    private final boolean ordered;
    /** The HEIGHTS of both, when the channel is OPEN; each client follows the other one's. */
    private final int heightFrom, heightAt;
    /** UNTIL of the messages: three ticks there, and their time is over. */
    private final int until;

    private MessageEdgesTest(int from, int first, boolean ordered) {
        this.from = from;
        this.at = 1 - from;
        this.first = first;
        this.ordered = ordered;
        this.heightFrom = from == first ? 2 : 1;
        this.heightAt = 3 - heightFrom;
        this.until = heightAt + 3;
    }

    public static void main(String[] args) {
        for (int i = 0; i < 8; i++) {
            new MessageEdgesTest(i / 4, i / 2 % 2, i % 2 == 1).all();
        }
        Checks.end();
    }

    private void all() {
        receiveUnknown();
        receiveState();
        receiveFrozen();
        receiveHeader();
        receiveProof();
        receiveLate();
        receiveAtTheGreatestHeight();
        receiveOrder();
        receiveAccounts();
        receiveAtHome();
        acknowledgeUnknown();
        acknowledgeState();
        acknowledgeFrozenAndHeader();
        acknowledgeProof();
        acknowledgeOrder();
        acknowledgeFailed();
        acknowledgeAtAnyStep();
        timeoutUnknown();
        timeoutState();
        timeoutFrozenAndHeader();
        timeoutProof();
        timeoutLate();
        timeoutAtTheGreatestHeight();
        timeoutAtTheLeastHeight();
        timeoutGivesBack();
        timeoutCloses();
        atMostOnce();
    }

    private String named(String what) {
        return "from side " + from + ", begun at " + first + ", " + (ordered ? "ordered, " : "free, ") + what;
    }

    private void no(String what, Scenes.Play play, Scenes.Call call, int due) {
        Scenes.refused(named(what), play, call, due);
    }

    private void is(String what, Scenes.Play play, Scenes.Call call, int due) {
        Scenes.answers(named(what), play, call, due);
    }

    // ---- how two messages, 0 and 1, go their way

    private void open(BridgeClients x) {
        Checks.open(x, first, ordered);
    }

    private void sent(BridgeClients x) {
        open(x);
        Checks.quiet("send", x.send(0, from, 0, 3, from, 10, until), 0);
        Checks.quiet("send", x.send(0, from, 1, 4, from, 20, until), 1);
    }

    /** They STAND in THE STATE of this height. */
    private int sentIn() {
        return heightFrom + 1;
    }

    private void shown(BridgeClients x) {
        sent(x);
        Checks.bring(x, from);
    }

    private void received(BridgeClients x) {
        shown(x);
        Checks.quiet("receive", x.receive(0, sentIn()), 1);
        Checks.quiet("receive", x.receive(1, sentIn()), 0);
    }

    /** They are received in THE STATE of this height. */
    private int receivedIn() {
        return heightAt + 1;
    }

    private void receivedAndShown(BridgeClients x) {
        received(x);
        Checks.bring(x, at);
    }

    private void acknowledged(BridgeClients x) {
        receivedAndShown(x);
        Checks.quiet("acknowledge", x.acknowledge(0, receivedIn()), 1);
    }

    /** HEIGHT there is UNTIL, and every height of it is followed. */
    private void over(BridgeClients x) {
        shown(x);
        bringUntil(x);
    }

    private void bringUntil(BridgeClients x) {
        while (x.count(at) < until) {
            Checks.bring(x, at);
        }
    }

    private void timedOut(BridgeClients x) {
        over(x);
        Checks.quiet("timeout", x.timeout(0, until), 10);
    }

    private static Scenes.Play ticks(int side, int times) {
        return x -> {
            for (int i = 0; i < times; i++) {
                x.tick(side);
            }
        };
    }

    private static Scenes.Play frozen(Scenes.Play play, int side) {
        return Scenes.then(play, x -> Checks.freeze(x, side, 1));
    }

    private static Scenes.Play renewed(Scenes.Play play, int side) {
        return Scenes.then(frozen(play, side), x -> x.renew(side));
    }

    /** A further height of the other side is followed at a side by a false MARK. */
    private static Scenes.Play shownFalsely(Scenes.Play play, int side) {
        return Scenes.then(play, x -> x.follow(side, x.tick(1 - side), 9));
    }

    private static Scenes.Play closed(Scenes.Play play, int side) {
        return Scenes.then(play, x -> Checks.quiet("close", x.close(0, side), 1));
    }

    // ---- promise 14

    private void receiveUnknown() {
        no("no message yet", this::open, x -> x.receive(0, 1), Checks.UNKNOWN);
        for (int none : NO_MESSAGES) {
            no("receive of message " + none, this::shown, x -> x.receive(none, sentIn()), Checks.UNKNOWN);
        }
        no("UNKNOWN before STATE", closed(this::shown, at), x -> x.receive(2, sentIn()), Checks.UNKNOWN);
        no("UNKNOWN before FROZEN", frozen(this::shown, at), x -> x.receive(2, sentIn()), Checks.UNKNOWN);
        no("UNKNOWN before HEADER", this::shown, x -> x.receive(2, 0), Checks.UNKNOWN);
        no("UNKNOWN before PROOF", this::shown, x -> x.receive(2, 1), Checks.UNKNOWN);
    }

    private void receiveState() {
        no("received well", this::received, x -> x.receive(0, sentIn()), Checks.STATE);
        no("it FAILED", this::received, x -> x.receive(1, sentIn()), Checks.STATE);
        no("acknowledged", this::acknowledged, x -> x.receive(0, sentIn()), Checks.STATE);
        no("CLOSED", closed(this::shown, at), x -> x.receive(0, sentIn()), Checks.STATE);
        no("STATE before FROZEN", frozen(this::received, at), x -> x.receive(0, sentIn()), Checks.STATE);
        no("STATE of the END before FROZEN", frozen(closed(this::shown, at), at), x -> x.receive(0, sentIn()),
            Checks.STATE);
        no("STATE before HEADER", this::received, x -> x.receive(0, 0), Checks.STATE);
        no("STATE of the END before HEADER", closed(this::shown, at), x -> x.receive(0, 0), Checks.STATE);
        no("STATE before PROOF", this::received, x -> x.receive(0, 1), Checks.STATE);
        no("STATE of the END before PROOF", closed(this::shown, at), x -> x.receive(0, 1), Checks.STATE);
        no("STATE before LATE", Scenes.then(this::received, this::bringUntil), x -> x.receive(0, sentIn()),
            Checks.STATE);
        no("STATE of the END before LATE", closed(this::over, at), x -> x.receive(0, sentIn()), Checks.STATE);
        no("STATE of the END before ORDER", closed(this::shown, at), x -> x.receive(1, sentIn()), Checks.STATE);
        is("the END that sent it may be CLOSED", closed(this::shown, from), x -> x.receive(0, sentIn()), 1);
        receiveAtTry();
    }

    private void receiveAtTry() {
        Scenes.Play unconfirmed = x -> {
            x.init(from, ordered, 7);
            x.meet(0, 7, Checks.bring(x, from));
            x.agree(0, Checks.bring(x, at));
            Checks.quiet("send", x.send(0, from, 0, 0, from, 10, 200), 0);
            Checks.bring(x, from);
        };
        no("TRY", unconfirmed, x -> x.receive(0, 2), Checks.STATE);
        is("confirmed", Scenes.then(unconfirmed, x -> x.confirm(0, 2)), x -> x.receive(0, 2), 1);
    }

    private void receiveFrozen() {
        no("FROZEN", frozen(this::shown, at), x -> x.receive(0, sentIn()), Checks.FROZEN);
        no("FROZEN before HEADER", frozen(this::shown, at), x -> x.receive(0, 0), Checks.FROZEN);
        no("FROZEN before PROOF", frozen(this::shown, at), x -> x.receive(0, 1), Checks.FROZEN);
        no("FROZEN before LATE", frozen(this::over, at), x -> x.receive(0, sentIn()), Checks.FROZEN);
        no("FROZEN before ORDER", frozen(this::shown, at), x -> x.receive(1, sentIn()), Checks.FROZEN);
        is("the client of the sender may be FROZEN", frozen(this::shown, from), x -> x.receive(0, sentIn()), 1);
    }

    private void receiveHeader() {
        for (int height : NO_HEIGHTS) {
            no("receive by height " + height, this::shown, x -> x.receive(0, height), Checks.HEADER);
        }
        no("the height above", this::shown, x -> x.receive(0, sentIn() + 1), Checks.HEADER);
        no("a height that is not brought", Scenes.then(this::sent, ticks(from, 1)), x -> x.receive(0, sentIn()),
            Checks.HEADER);
        no("by a false MARK", shownFalsely(this::sent, at), x -> x.receive(0, sentIn()), Checks.HEADER);
        no("it follows nothing", renewed(this::shown, at), x -> x.receive(0, sentIn()), Checks.HEADER);
        is("followed again", Scenes.then(renewed(this::shown, at), x -> x.follow(at, sentIn(), 0)),
            x -> x.receive(0, sentIn()), 1);
        Scenes.Play before = Scenes.then(shownFalsely(this::open, at), x -> x.send(0, from, 0, 0, from, 10, until));
        no("HEADER before PROOF", before, x -> x.receive(0, heightFrom + 1), Checks.HEADER);
        no("HEADER before LATE", this::over, x -> x.receive(0, sentIn() + 1), Checks.HEADER);
        no("HEADER before ORDER", this::shown, x -> x.receive(1, sentIn() + 1), Checks.HEADER);
    }

    private void receiveProof() {
        no("THE STATE of the HEIGHT at which it was sent", this::shown, x -> x.receive(0, heightFrom), Checks.PROOF);
        is("the next one", this::shown, x -> x.receive(0, sentIn()), 1);
        is("the one after it", Scenes.then(this::shown, x -> Checks.bring(x, from)), x -> x.receive(0, sentIn() + 1), 1);
        no("PROOF before LATE", this::over, x -> x.receive(0, heightFrom), Checks.PROOF);
        no("PROOF before ORDER", this::shown, x -> x.receive(1, heightFrom), Checks.PROOF);
        Scenes.Play gone = Scenes.then(this::timedOut, x -> Checks.bring(x, from));
        no("it STANDS no more in that STATE", gone, x -> x.receive(0, sentIn() + 1), Checks.PROOF);
        no("it STOOD in that one", gone, x -> x.receive(0, sentIn()), Checks.LATE);
        Scenes.Play inOneBlock = Scenes.then(this::sent, x -> {
            bringUntil(x);
            x.timeout(0, until);
            Checks.bring(x, from);
        });
        no("sent and timed out at one HEIGHT", inOneBlock, x -> x.receive(0, sentIn()), Checks.PROOF);
    }

    private void receiveLate() {
        is("HEIGHT is one below UNTIL", Scenes.then(this::shown, ticks(at, 2)), x -> x.receive(0, sentIn()), 1);
        no("HEIGHT is UNTIL", Scenes.then(this::shown, ticks(at, 3)), x -> x.receive(0, sentIn()), Checks.LATE);
        no("HEIGHT is above UNTIL", Scenes.then(this::shown, ticks(at, 4)), x -> x.receive(0, sentIn()), Checks.LATE);
        no("LATE before ORDER", Scenes.then(this::shown, ticks(at, 3)), x -> x.receive(1, sentIn()), Checks.LATE);
        is("HEIGHT of the sender is nothing to it", Scenes.then(this::shown, ticks(from, 9)),
            x -> x.receive(0, sentIn()), 1);
        Scenes.Play least = Scenes.then(renewed(this::open, from), x -> {
            Checks.quiet("send", x.send(0, from, 0, 0, from, 10, 1), 0);
            Checks.bring(x, from);
        });
        no("the least UNTIL", least, x -> x.receive(0, sentIn()), Checks.LATE);
    }

    private Scenes.Play lastingToTheGreatest(int height) {
        return Scenes.then(this::open, x -> {
            Checks.quiet("send", x.send(0, from, 0, 0, from, 10, 200), 0);
            Checks.bring(x, from);
            ticks(at, height - heightAt).on(x);
        });
    }

    private void receiveAtTheGreatestHeight() {
        is("UNTIL 200 at HEIGHT 199", lastingToTheGreatest(199), x -> x.receive(0, sentIn()), 1);
        no("UNTIL 200 at HEIGHT 200", lastingToTheGreatest(200), x -> x.receive(0, sentIn()), Checks.LATE);
        Scenes.Play sentAtTheEnd = Scenes.then(this::open, x -> {
            ticks(from, 199 - heightFrom).on(x);
            x.send(0, from, 0, 0, from, 10, 200);
            Checks.bring(x, from);
            x.send(0, from, 0, 0, from, 10, 200);
        });
        is("sent at HEIGHT 199", sentAtTheEnd, x -> x.receive(0, 200), 1);
        no("sent at HEIGHT 200", sentAtTheEnd, x -> x.receive(1, 200), Checks.PROOF);
    }

    private void receiveOrder() {
        if (!ordered) {
            is("the second one first", this::shown, x -> x.receive(1, sentIn()), 0);
            is("one whose forerunner's time was over", sentAfterOver(), x -> x.receive(2, sentIn() + 1), 1);
            return;
        }
        no("the second one first", this::shown, x -> x.receive(1, sentIn()), Checks.ORDER);
        is("after the first one", Scenes.then(this::shown, x -> x.receive(0, sentIn())), x -> x.receive(1, sentIn()), 0);
        Scenes.Play third = Scenes.then(this::sent, x -> {
            x.send(0, from, 0, 0, from, 1, until);
            Checks.bring(x, from);
            x.receive(0, sentIn());
        });
        no("the third one before the second", third, x -> x.receive(2, sentIn()), Checks.ORDER);
        is("the second one FAILED, it is received", Scenes.then(third, x -> x.receive(1, sentIn())),
            x -> x.receive(2, sentIn()), 1);
        no("one whose forerunner's time was over", sentAfterOver(), x -> x.receive(2, sentIn() + 1), Checks.ORDER);
        Scenes.Play back = Scenes.then(this::shown, x -> {
            x.send(0, at, 0, 0, at, 1, 200);
            Checks.bring(x, at);
        });
        is("the other END has an order of its own", back, x -> x.receive(2, receivedIn()), 1);
        Scenes.Play second = Scenes.then(this::sent, x -> {
            int channel = Checks.open(x, from, true);
            x.send(channel, from, 0, 0, from, 1, 200);
            Checks.bring(x, from);
        });
        is("another channel has an order of its own", second, x -> x.receive(2, x.count(from)), 1);
    }

    /** The time of 0 and 1 is over, that of 2 is not. */
    private Scenes.Play sentAfterOver() {
        return Scenes.then(this::over, x -> {
            Checks.quiet("send", x.send(0, from, 0, 0, from, 1, 200), 2);
            x.timeout(0, until);
            x.timeout(1, until);
            Checks.bring(x, from);
        });
    }

    private void receiveAccounts() {
        for (int to = 0; to < 8; to++) {
            int told = to;
            Scenes.Play play = Scenes.then(this::open, x -> {
                x.send(0, from, 0, told, from, 1000, until);
                Checks.bring(x, from);
            });
            is("to " + to, play, x -> x.receive(0, sentIn()), to < 4 ? 1 : 0);
            Scenes.Play got = Scenes.then(play, x -> x.receive(0, sentIn()));
            is("all VOUCHERS, to " + to, got, x -> x.sum(from, 2), to < 4 ? 1000 : 0);
            is("VOUCHERS of account " + to, got, x -> x.vouchers(0, at, told), to < 4 ? 1000 : Checks.UNKNOWN);
            is("the ESCROW, to " + to, got, x -> x.end(0, from, 3), 1000);
            is("how many are received, to " + to, got, x -> x.end(0, at, 5), 1);
            is("it STANDS, to " + to, got, x -> x.message(0, 8), 1);
        }
    }

    private void receiveAtHome() {
        Scenes.Play home = Scenes.then(this::received, x -> {
            Checks.quiet("send", x.send(0, at, 3, 2, from, 10, 200), 2);
            Checks.bring(x, at);
        });
        is("all VOUCHERS come home", home, x -> x.receive(2, receivedIn()), 1);
        Scenes.Play got = Scenes.then(home, x -> x.receive(2, receivedIn()));
        is("from the ESCROW", got, x -> x.end(0, from, 3), 20);
        is("to the account", got, x -> x.balance(from, 2, from), 1010);
        is("no ESCROW there", got, x -> x.end(0, at, 3), 0);
    }

    // ---- promise 15

    private void acknowledgeUnknown() {
        no("no message yet", this::open, x -> x.acknowledge(0, 1), Checks.UNKNOWN);
        for (int none : NO_MESSAGES) {
            no("acknowledge of message " + none, this::receivedAndShown, x -> x.acknowledge(none, receivedIn()),
                Checks.UNKNOWN);
        }
        no("UNKNOWN before FROZEN", frozen(this::receivedAndShown, from), x -> x.acknowledge(2, receivedIn()),
            Checks.UNKNOWN);
        no("UNKNOWN before HEADER", this::receivedAndShown, x -> x.acknowledge(2, 0), Checks.UNKNOWN);
    }

    private void acknowledgeState() {
        no("acknowledged", this::acknowledged, x -> x.acknowledge(0, receivedIn()), Checks.STATE);
        no("its time was over", this::timedOut, x -> x.acknowledge(0, until), Checks.STATE);
        no("STATE before FROZEN", frozen(this::acknowledged, from), x -> x.acknowledge(0, receivedIn()), Checks.STATE);
        no("STATE before HEADER", this::acknowledged, x -> x.acknowledge(0, 0), Checks.STATE);
        no("STATE before PROOF", this::acknowledged, x -> x.acknowledge(0, heightAt), Checks.STATE);
        Scenes.Play secondTimedOut = Scenes.then(this::over, x -> x.timeout(1, until));
        no("STATE before ORDER", secondTimedOut, x -> x.acknowledge(1, until), Checks.STATE);
    }

    private void acknowledgeFrozenAndHeader() {
        Scenes.Play shown = this::receivedAndShown;
        no("FROZEN", frozen(shown, from), x -> x.acknowledge(0, receivedIn()), Checks.FROZEN);
        no("FROZEN before HEADER", frozen(shown, from), x -> x.acknowledge(0, 0), Checks.FROZEN);
        no("FROZEN before PROOF", frozen(shown, from), x -> x.acknowledge(0, heightAt), Checks.FROZEN);
        no("FROZEN before ORDER", frozen(shown, from), x -> x.acknowledge(1, receivedIn()), Checks.FROZEN);
        is("the other client may be FROZEN", frozen(shown, at), x -> x.acknowledge(0, receivedIn()), 1);
        for (int height : NO_HEIGHTS) {
            no("acknowledge by height " + height, shown, x -> x.acknowledge(0, height), Checks.HEADER);
        }
        no("the height above", shown, x -> x.acknowledge(0, receivedIn() + 1), Checks.HEADER);
        no("by a false MARK", shownFalsely(this::received, from), x -> x.acknowledge(0, receivedIn()), Checks.HEADER);
        no("it follows nothing", renewed(shown, from), x -> x.acknowledge(0, receivedIn()), Checks.HEADER);
        no("HEADER before PROOF", shownFalsely(this::shown, from), x -> x.acknowledge(0, receivedIn()), Checks.HEADER);
        no("HEADER before ORDER", shown, x -> x.acknowledge(1, receivedIn() + 1), Checks.HEADER);
    }

    private void acknowledgeProof() {
        no("it was not received", this::shown, x -> x.acknowledge(0, heightAt), Checks.PROOF);
        no("THE STATE of the HEIGHT at which it was received", this::receivedAndShown,
            x -> x.acknowledge(0, heightAt), Checks.PROOF);
        is("the next one", this::receivedAndShown, x -> x.acknowledge(0, receivedIn()), 1);
        is("the one after it", Scenes.then(this::receivedAndShown, x -> Checks.bring(x, at)),
            x -> x.acknowledge(0, receivedIn() + 1), 1);
        no("PROOF before ORDER", this::receivedAndShown, x -> x.acknowledge(1, heightAt), Checks.PROOF);
        is("after UNTIL", Scenes.then(this::received, this::bringUntil), x -> x.acknowledge(0, until), 1);
    }

    private void acknowledgeOrder() {
        if (!ordered) {
            is("the second one first", this::receivedAndShown, x -> x.acknowledge(1, receivedIn()), 0);
            return;
        }
        no("the second one first", this::receivedAndShown, x -> x.acknowledge(1, receivedIn()), Checks.ORDER);
        is("after the first one", this::acknowledged, x -> x.acknowledge(1, receivedIn()), 0);
        Scenes.Play back = Scenes.then(this::received, x -> {
            x.send(0, at, 0, 0, at, 1, 200);
            Checks.bring(x, at);
            x.receive(2, receivedIn());
            Checks.bring(x, from);
        });
        is("the other END has an order of its own", back, x -> x.acknowledge(2, sentIn() + 1), 1);
        Scenes.Play second = Scenes.then(this::sent, x -> {
            int channel = Checks.open(x, from, true);
            Checks.quiet("send", x.send(channel, from, 0, 0, from, 1, 200), 2);
            Checks.quiet("receive", x.receive(2, Checks.bring(x, from)), 1);
            Checks.bring(x, at);
        });
        is("another channel has an order of its own", second, x -> x.acknowledge(2, x.count(at)), 1);
    }

    private void acknowledgeFailed() {
        Scenes.Play both = Scenes.then(this::acknowledged,
            x -> Checks.quiet("it FAILED", x.acknowledge(1, receivedIn()), 0));
        is("the amount is not back before", this::acknowledged, x -> x.balance(from, 1, from), 980);
        is("the amount is back", both, x -> x.balance(from, 1, from), 1000);
        is("what went well is not", both, x -> x.balance(from, 0, from), 990);
        is("from the ESCROW", both, x -> x.end(0, from, 3), 10);
        is("it came back", both, x -> x.message(1, 10), 1);
        is("the first one did not", both, x -> x.message(0, 10), 0);
        is("none STANDS", both, x -> x.count(4), 0);
        Scenes.Play vouchers = Scenes.then(this::received, x -> {
            Checks.quiet("send", x.send(0, at, 3, 7, from, 10, 200), 2);
            Checks.quiet("it FAILED", x.receive(2, Checks.bring(x, at)), 0);
            Checks.quiet("acknowledge", x.acknowledge(2, Checks.bring(x, from)), 0);
        });
        is("back as VOUCHERS", vouchers, x -> x.vouchers(0, at, 3), 10);
        is("the ESCROW is as before", vouchers, x -> x.end(0, from, 3), 30);
    }

    private void acknowledgeAtAnyStep() {
        Scenes.Play closedHere = closed(this::receivedAndShown, from);
        is("the END that sent it is CLOSED", closedHere, x -> x.acknowledge(0, receivedIn()), 1);
        is("the other END is CLOSED", closed(this::receivedAndShown, at), x -> x.acknowledge(0, receivedIn()), 1);
    }

    // ---- promise 16

    private void timeoutUnknown() {
        no("no message yet", this::open, x -> x.timeout(0, 1), Checks.UNKNOWN);
        for (int none : NO_MESSAGES) {
            no("timeout of message " + none, this::over, x -> x.timeout(none, until), Checks.UNKNOWN);
        }
        no("UNKNOWN before FROZEN", frozen(this::over, from), x -> x.timeout(2, until), Checks.UNKNOWN);
        no("UNKNOWN before HEADER", this::over, x -> x.timeout(2, 0), Checks.UNKNOWN);
    }

    private void timeoutState() {
        no("its time was over before", this::timedOut, x -> x.timeout(0, until), Checks.STATE);
        Scenes.Play acknowledgedAndOver = Scenes.then(this::acknowledged, this::bringUntil);
        no("acknowledged", acknowledgedAndOver, x -> x.timeout(0, until), Checks.STATE);
        no("STATE before FROZEN", frozen(this::timedOut, from), x -> x.timeout(0, until), Checks.STATE);
        no("STATE before HEADER", this::timedOut, x -> x.timeout(0, until + 1), Checks.STATE);
        no("STATE before PROOF", this::acknowledged, x -> x.timeout(0, receivedIn()), Checks.STATE);
        no("STATE before LATE", this::timedOut, x -> x.timeout(0, until - 1), Checks.STATE);
    }

    private void timeoutFrozenAndHeader() {
        no("FROZEN", frozen(this::over, from), x -> x.timeout(0, until), Checks.FROZEN);
        no("FROZEN before HEADER", frozen(this::over, from), x -> x.timeout(0, until + 1), Checks.FROZEN);
        no("FROZEN before PROOF", frozen(this::receivedAndShown, from), x -> x.timeout(0, receivedIn()), Checks.FROZEN);
        no("FROZEN before LATE", frozen(this::over, from), x -> x.timeout(0, until - 1), Checks.FROZEN);
        is("the other client may be FROZEN", frozen(this::over, at), x -> x.timeout(0, until), 10);
        for (int height : NO_HEIGHTS) {
            no("timeout by height " + height, this::over, x -> x.timeout(0, height), Checks.HEADER);
        }
        no("the height above", this::over, x -> x.timeout(0, until + 1), Checks.HEADER);
        no("it follows nothing", renewed(this::over, from), x -> x.timeout(0, until), Checks.HEADER);
        Scenes.Play falsely = Scenes.then(Scenes.then(this::sent, ticks(at, 3)), x -> x.follow(from, until, 1));
        no("by a false MARK", falsely, x -> x.timeout(0, until), Checks.HEADER);
        no("HEADER before PROOF", shownFalsely(this::received, from), x -> x.timeout(0, receivedIn()), Checks.HEADER);
        no("HEADER before LATE", shownFalsely(this::shown, from), x -> x.timeout(0, heightAt + 1), Checks.HEADER);
    }

    private void timeoutProof() {
        Scenes.Play receivedAndOver = Scenes.then(this::received, this::bringUntil);
        no("it is received well", receivedAndOver, x -> x.timeout(0, until), Checks.PROOF);
        no("it FAILED", receivedAndOver, x -> x.timeout(1, until), Checks.PROOF);
        no("PROOF before LATE", this::receivedAndShown, x -> x.timeout(0, receivedIn()), Checks.PROOF);
        no("not received in that STATE, which is LATE", receivedAndOver, x -> x.timeout(0, heightAt), Checks.LATE);
        Scenes.Play inTheLastBlock = Scenes.then(this::shown, x -> {
            Checks.bring(x, at);
            Checks.bring(x, at);
            Checks.quiet("receive", x.receive(0, sentIn()), 1);
            Checks.bring(x, at);
        });
        no("received at the last HEIGHT below UNTIL", inTheLastBlock, x -> x.timeout(0, until), Checks.PROOF);
        no("that STATE has it not yet", inTheLastBlock, x -> x.timeout(0, until - 1), Checks.LATE);
        is("it can be acknowledged", inTheLastBlock, x -> x.acknowledge(0, until), 1);
    }

    private void timeoutLate() {
        no("one below UNTIL", this::over, x -> x.timeout(0, until - 1), Checks.LATE);
        no("the least height", this::over, x -> x.timeout(0, 1), Checks.LATE);
        is("UNTIL", this::over, x -> x.timeout(0, until), 10);
        is("above UNTIL", Scenes.then(this::over, x -> Checks.bring(x, at)), x -> x.timeout(0, until + 1), 10);
        is("never shown there", Scenes.then(this::sent, this::bringUntil), x -> x.timeout(0, until), 10);
        is("the END there is CLOSED", closed(this::over, at), x -> x.timeout(0, until), 10);
        no("no order is asked for, but time is", this::over, x -> x.timeout(1, until - 1), Checks.LATE);
        is("the second one first", this::over, x -> x.timeout(1, until), 20);
    }

    private void timeoutAtTheGreatestHeight() {
        Scenes.Play greatest = Scenes.then(lastingToTheGreatest(200), x -> {
            x.follow(from, 199, 0);
            x.follow(from, 200, 0);
        });
        is("UNTIL 200 by 200", greatest, x -> x.timeout(0, 200), 10);
        no("UNTIL 200 by 199", greatest, x -> x.timeout(0, 199), Checks.LATE);
        no("by 201", greatest, x -> x.timeout(0, 201), Checks.HEADER);
    }

    private void timeoutAtTheLeastHeight() {
        Scenes.Play least = Scenes.then(renewed(this::open, from), x -> {
            Checks.quiet("send", x.send(0, from, 0, 0, from, 10, 1), 0);
            x.follow(from, 1, 0);
        });
        is("UNTIL 1 by 1", least, x -> x.timeout(0, 1), 10);
        no("by 0", least, x -> x.timeout(0, 0), Checks.HEADER);
    }

    private void timeoutGivesBack() {
        is("the account", this::timedOut, x -> x.balance(from, 0, from), 1000);
        is("the ESCROW", this::timedOut, x -> x.end(0, from, 3), 20);
        is("it came back", this::timedOut, x -> x.message(0, 10), 1);
        is("the other one did not", this::timedOut, x -> x.message(1, 10), 0);
        is("it is not received", this::timedOut, x -> x.message(0, 9), 0);
        is("one STANDS", this::timedOut, x -> x.count(4), 1);
        is("all that can be sent", Scenes.then(this::open, x -> {
            x.send(0, from, 0, 0, from, 1000, until);
            bringUntil(x);
        }), x -> x.timeout(0, until), 1000);
        Scenes.Play vouchers = Scenes.then(this::received, x -> {
            Checks.quiet("send", x.send(0, at, 3, 0, from, 10, sentIn() + 1), 2);
            Checks.quiet("timeout", x.timeout(2, Checks.bring(x, from)), 10);
        });
        is("back as VOUCHERS", vouchers, x -> x.vouchers(0, at, 3), 10);
        is("the ESCROW is as before", vouchers, x -> x.end(0, from, 3), 30);
    }

    private void timeoutCloses() {
        is("this END", this::timedOut, x -> x.end(0, from, 0), ordered ? 4 : 3);
        is("the other END", this::timedOut, x -> x.end(0, at, 0), 3);
        Scenes.Play twice = Scenes.then(this::timedOut, x -> {
            x.tick(from);
            Checks.quiet("timeout", x.timeout(1, until), 20);
            x.tick(from);
        });
        is("OPEN in THE STATE of that HEIGHT", twice, x -> x.stepAt(0, from, sentIn()), 3);
        is("in the next one", twice, x -> x.stepAt(0, from, sentIn() + 1), ordered ? 4 : 3);
        is("after a second timeout", twice, x -> x.end(0, from, 0), ordered ? 4 : 3);
        Scenes.Play closedBefore = Scenes.then(closed(this::over, from), x -> {
            x.tick(from);
            Checks.quiet("timeout", x.timeout(0, until), 10);
            x.tick(from);
        });
        is("CLOSED before the timeout", closedBefore, x -> x.end(0, from, 0), 4);
        is("in THE STATE between", closedBefore, x -> x.stepAt(0, from, sentIn() + 1), 4);
    }

    private void atMostOnce() {
        no("timed out, never received", this::timedOut, x -> x.receive(0, sentIn()), Checks.LATE);
        Scenes.Play received = Scenes.then(this::receivedAndShown, x -> x.receive(0, sentIn()));
        is("received twice, got once", received, x -> x.vouchers(0, at, 3), 10);
        Scenes.Play acknowledgedTwice = Scenes.then(this::acknowledged, x -> {
            x.acknowledge(1, receivedIn());
            x.acknowledge(1, receivedIn());
            bringUntil(x);
            x.timeout(1, until);
        });
        is("back once", acknowledgedTwice, x -> x.balance(from, 1, from), 1000);
    }
}
