/** Promises 20 to 22 at their bounds: one test for each sentence of the document that names one. */
public final class CoinEdgesTest {
    /** Of sides and of coins. */
    private static final int[] NEITHER = {Integer.MIN_VALUE, -1, 2, 3, Integer.MAX_VALUE};
    private static final int[] NO_ACCOUNTS = {Integer.MIN_VALUE, -1, 4, 7, Integer.MAX_VALUE};
    /** Of one channel, whose number is 0. */
    private static final int[] NO_CHANNELS = {Integer.MIN_VALUE, -1, 1, 3, 4, Integer.MAX_VALUE};

    /** The side where the coin is at HOME, and the other one. */
    private final int home, away;

    private CoinEdgesTest(int home) {
        this.home = home;
        this.away = 1 - home;
    }

    public static void main(String[] args) {
        for (int home = 0; home < 2; home++) {
            new CoinEdgesTest(home).all();
        }
        Checks.end();
    }

    private void all() {
        balanceUnknown();
        balanceAtFirst();
        balanceOfNothingAndOfAll();
        balanceOfAllChannels();
        vouchersUnknown();
        vouchersOfNothingAndOfAll();
        vouchersOfEachChannel();
        sumBounds();
        sumAtFirst();
        sumOfAllThatIsSent();
        sumOfEachEnd();
        sumOfMessagesThatFailed();
        asMuchAsEver();
    }

    private void no(String what, Scenes.Play play, Scenes.Call call, int due) {
        Scenes.refused("home " + home + ", " + what, play, call, due);
    }

    private void is(String what, Scenes.Play play, Scenes.Call call, int due) {
        Scenes.answers("home " + home + ", " + what, play, call, due);
    }

    private static void nothing(BridgeClients x) {
    }

    private void open(BridgeClients x) {
        Checks.open(x, home, false);
    }

    /** All of the coin is sent to one account, or to one that there is not: messages 0 to 3, UNTIL 3. */
    private Scenes.Play allSentTo(int to) {
        return x -> {
            open(x);
            for (int account = 0; account < 4; account++) {
                Checks.quiet("send", x.send(0, home, account, to, home, 1000, 3), account);
            }
            Checks.bring(x, home);
        };
    }

    private Scenes.Play allReceivedBy(int to) {
        return Scenes.then(allSentTo(to), x -> {
            for (int message = 0; message < 4; message++) {
                Checks.quiet("receive", x.receive(message, 3), to < 4 ? 1 : 0);
            }
        });
    }

    /** All VOUCHERS of one account come home to one account there: messages 4 to 7. */
    private Scenes.Play allHomeTo(int to) {
        return Scenes.then(allReceivedBy(3), x -> {
            for (int message = 4; message < 8; message++) {
                Checks.quiet("send", x.send(0, away, 3, to, home, 1000, 200), message);
            }
            int height = Checks.bring(x, away);
            for (int message = 4; message < 8; message++) {
                Checks.quiet("receive", x.receive(message, height), 1);
            }
        });
    }

    /** One coin by the first channel, 2 by the second, 3 by the third, 4 by the fourth: all to account 1. */
    private void byAllChannels(BridgeClients x) {
        for (int channel = 0; channel < 4; channel++) {
            Checks.open(x, channel % 2, channel < 2);
            Checks.quiet("send", x.send(channel, home, 0, 1, home, channel + 1, 200), channel);
        }
        int height = Checks.bring(x, home);
        for (int message = 0; message < 4; message++) {
            Checks.quiet("receive", x.receive(message, height), 1);
        }
    }

    // ---- promise 20

    private void balanceUnknown() {
        for (int none : NEITHER) {
            no("balance at side " + none, this::open, x -> x.balance(none, 0, home), Checks.UNKNOWN);
            no("balance of coin " + none, this::open, x -> x.balance(home, 0, none), Checks.UNKNOWN);
        }
        for (int none : NO_ACCOUNTS) {
            no("balance of account " + none, this::open, x -> x.balance(home, none, home), Checks.UNKNOWN);
            no("VOUCHERS of account " + none, this::open, x -> x.balance(away, none, home), Checks.UNKNOWN);
        }
    }

    private void balanceAtFirst() {
        for (int account = 0; account < 4; account++) {
            int asked = account;
            is("at first", CoinEdgesTest::nothing, x -> x.balance(home, asked, home), 1000);
            is("no channel yet", CoinEdgesTest::nothing, x -> x.balance(away, asked, home), 0);
            is("a channel, nothing sent", this::open, x -> x.balance(away, asked, home), 0);
        }
    }

    private void balanceOfNothingAndOfAll() {
        for (int account = 0; account < 4; account++) {
            int asked = account;
            is("all is sent", allSentTo(0), x -> x.balance(home, asked, home), 0);
            is("all is received", allReceivedBy(3), x -> x.balance(away, asked, home), account == 3 ? 4000 : 0);
            is("all is home", allHomeTo(0), x -> x.balance(home, asked, home), account == 0 ? 4000 : 0);
            is("nothing is away", allHomeTo(0), x -> x.balance(away, asked, home), 0);
            is("the other coin is as at first", allHomeTo(0), x -> x.balance(away, asked, away), 1000);
        }
    }

    private void balanceOfAllChannels() {
        is("VOUCHERS of all channels", this::byAllChannels, x -> x.balance(away, 1, home), 10);
        is("of another account", this::byAllChannels, x -> x.balance(away, 0, home), 0);
        is("what it was sent from", this::byAllChannels, x -> x.balance(home, 0, home), 990);
        is("none of the other coin", this::byAllChannels, x -> x.balance(home, 1, away), 0);
    }

    // ---- promise 21

    private void vouchersUnknown() {
        no("no channel yet", CoinEdgesTest::nothing, x -> x.vouchers(0, away, 0), Checks.UNKNOWN);
        for (int none : NO_CHANNELS) {
            no("vouchers of channel " + none, allReceivedBy(0), x -> x.vouchers(none, away, 0), Checks.UNKNOWN);
        }
        for (int none : NEITHER) {
            no("vouchers at side " + none, allReceivedBy(0), x -> x.vouchers(0, none, 0), Checks.UNKNOWN);
        }
        for (int none : NO_ACCOUNTS) {
            no("vouchers of account " + none, allReceivedBy(0), x -> x.vouchers(0, away, none), Checks.UNKNOWN);
        }
        no("channel 4 of 4", this::byAllChannels, x -> x.vouchers(4, away, 0), Checks.UNKNOWN);
    }

    private void vouchersOfNothingAndOfAll() {
        for (int account = 0; account < 4; account++) {
            int asked = account;
            is("INIT", x -> x.init(home, false, 1), x -> x.vouchers(0, away, asked), 0);
            is("all is sent", allSentTo(0), x -> x.vouchers(0, away, asked), 0);
            is("all is received", allReceivedBy(0), x -> x.vouchers(0, away, asked), account == 0 ? 4000 : 0);
            is("none at HOME", allReceivedBy(0), x -> x.vouchers(0, home, asked), 0);
            is("to an account that there is not", allReceivedBy(4), x -> x.vouchers(0, away, asked), 0);
            is("all is home", allHomeTo(3), x -> x.vouchers(0, away, asked), 0);
        }
    }

    private void vouchersOfEachChannel() {
        for (int channel = 0; channel < 4; channel++) {
            int asked = channel;
            is("of channel " + channel, this::byAllChannels, x -> x.vouchers(asked, away, 1), channel + 1);
            is("at HOME, of channel " + channel, this::byAllChannels, x -> x.vouchers(asked, home, 1), 0);
            is("the ESCROW of channel " + channel, this::byAllChannels, x -> x.end(asked, home, 3), channel + 1);
        }
    }

    // ---- promise 22

    private void sumBounds() {
        for (int none : NEITHER) {
            no("sum of coin " + none, this::open, x -> x.sum(none, 0), Checks.UNKNOWN);
            no("UNKNOWN before OUTSIDE, coin " + none, this::open, x -> x.sum(none, 4), Checks.UNKNOWN);
        }
        int[] outside = {Integer.MIN_VALUE, -1, 4, 5, Integer.MAX_VALUE};
        for (int what : outside) {
            no("sum, what " + what, this::open, x -> x.sum(home, what), Checks.OUTSIDE);
        }
    }

    private void sumsAre(String text, Scenes.Play play, int... due) {
        for (int asked = 0; asked < due.length; asked++) {
            int what = asked;
            is(text + ", sum " + what, play, x -> x.sum(home, what), due[what]);
        }
        is(text + ", accounts and ESCROWS of the other coin", play, x -> x.sum(away, 0) + x.sum(away, 1), 4000);
    }

    private void sumAtFirst() {
        sumsAre("a new object", CoinEdgesTest::nothing, 4000, 0, 0, 0);
        sumsAre("a channel", this::open, 4000, 0, 0, 0);
        Scenes.Play otherCoin = Scenes.then(this::open, x -> x.send(0, away, 0, 0, away, 1000, 200));
        sumsAre("the other coin is sent", otherCoin, 4000, 0, 0, 0);
    }

    private void sumOfAllThatIsSent() {
        sumsAre("all is sent", allSentTo(0), 0, 4000, 0, 4000);
        sumsAre("all is received", allReceivedBy(0), 0, 4000, 4000, 0);
        sumsAre("all is home", allHomeTo(1), 4000, 0, 0, 0);
        Scenes.Play onItsWayHome = Scenes.then(allReceivedBy(0), x -> x.send(0, away, 0, 0, home, 1000, 200));
        sumsAre("a part is on its way home", onItsWayHome, 0, 4000, 3000, 1000);
    }

    private void sumOfEachEnd() {
        sumsAre("by all channels", this::byAllChannels, 3990, 10, 10, 0);
        Scenes.Play timedOut = Scenes.then(allSentTo(0), x -> {
            Checks.bring(x, away);
            int height = Checks.bring(x, away);
            for (int message = 0; message < 3; message++) {
                Checks.quiet("timeout", x.timeout(message, height), 1000);
            }
        });
        sumsAre("three came back, one did not yet", timedOut, 3000, 1000, 0, 1000);
        Scenes.Play acknowledged = Scenes.then(allReceivedBy(0), x -> x.acknowledge(0, Checks.bring(x, away)));
        sumsAre("one is acknowledged", acknowledged, 0, 4000, 4000, 0);
    }

    private void sumOfMessagesThatFailed() {
        sumsAre("all FAILED", allReceivedBy(7), 0, 4000, 0, 4000);
        Scenes.Play back = Scenes.then(allReceivedBy(7), x -> {
            int height = Checks.bring(x, away);
            for (int message = 0; message < 4; message++) {
                Checks.quiet("acknowledge", x.acknowledge(message, height), 0);
            }
        });
        sumsAre("all is back", back, 4000, 0, 0, 0);
    }

    /** Of each coin there is always as much, at every step of every scene. */
    private void asMuchAsEver() {
        Scenes.Play[] plays = {CoinEdgesTest::nothing, this::open, this::byAllChannels, allSentTo(0), allSentTo(7),
            allReceivedBy(0), allReceivedBy(7), allHomeTo(0), allHomeTo(3)};
        for (int i = 0; i < plays.length; i++) {
            for (int coin = 0; coin < 2; coin++) {
                int asked = coin;
                is("scene " + i + ", coin " + coin, plays[i], x -> x.sum(asked, 0) + x.sum(asked, 1), 4000);
                is("scene " + i + ", what stands for the ESCROWS of coin " + coin, plays[i],
                    x -> x.sum(asked, 2) + x.sum(asked, 3) - x.sum(asked, 1), 0);
            }
        }
    }
}
