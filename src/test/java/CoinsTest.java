/** Promises 20 to 22: balances, vouchers and sums. */
public final class CoinsTest {
    public static void main(String[] args) {
        vouchersOfTwoChannels();
        sums();
        unknownNumbers();
        Checks.end();
    }

    private static void vouchersOfTwoChannels() {
        BridgeClients x = new BridgeClients();
        int one = Checks.open(x, 0, false);
        int two = Checks.open(x, 1, true);
        x.send(one, 1, 0, 3, 1, 100, 90);
        x.send(two, 1, 0, 3, 1, 30, 90);
        int height = Checks.bring(x, 1);
        Checks.due("receive", x.receive(0, height), 1);
        Checks.due("receive", x.receive(1, height), 1);
        Checks.due("of all channels", x.balance(0, 3, 1), 130);
        Checks.due("of one", x.vouchers(one, 0, 3), 100);
        Checks.due("of two", x.vouchers(two, 0, 3), 30);
        Checks.due("of another account", x.vouchers(one, 0, 0), 0);
        Checks.due("of the side that sent", x.vouchers(one, 1, 3), 0);
        Checks.due("home coin there", x.balance(1, 0, 1), 870);
        Checks.due("home coin here", x.balance(0, 3, 0), 1000);
        Checks.due("vouchers go by their own channel", x.send(two, 0, 3, 0, 1, 31, 90), Checks.STATE);
        Checks.due("all of them", x.send(two, 0, 3, 0, 1, 30, 90), 2);
        Checks.due("the rest", x.balance(0, 3, 1), 100);
        Checks.due("receive at home", x.receive(2, Checks.bring(x, 0)), 1);
        Checks.due("escrow of two", x.end(two, 1, 3), 0);
        Checks.due("escrow of one", x.end(one, 1, 3), 100);
        Checks.due("home", x.balance(1, 0, 1), 900);
    }

    private static void sums() {
        BridgeClients x = new BridgeClients();
        int one = Checks.open(x, 0, false);
        int two = Checks.open(x, 0, false);
        x.send(one, 0, 0, 0, 0, 100, 90);
        x.send(two, 0, 1, 6, 0, 20, 90);
        x.send(two, 0, 1, 1, 0, 3, 90);
        x.send(one, 1, 2, 2, 1, 500, x.count(0) + 1);
        ask(x, 0, 3877, 123, 0, 123);
        ask(x, 1, 3500, 500, 0, 500);
        int height = Checks.bring(x, 0);
        x.receive(0, height);
        x.receive(1, height);
        ask(x, 0, 3877, 123, 100, 23);
        int back = Checks.bring(x, 1);
        x.acknowledge(0, back);
        x.acknowledge(1, back);
        ask(x, 0, 3897, 103, 100, 3);
        Checks.due("timeout", x.timeout(3, height), 500);
        ask(x, 1, 4000, 0, 0, 0);
        x.send(one, 1, 0, 7, 0, 60, 90);
        ask(x, 0, 3897, 103, 40, 63);
        Checks.due("what 4", x.sum(0, 4), Checks.OUTSIDE);
        Checks.due("unknown before outside", x.sum(2, 4), Checks.UNKNOWN);
    }

    private static void ask(BridgeClients x, int coin, int accounts, int escrows, int vouchers, int messages) {
        Checks.due("accounts at HOME", x.sum(coin, 0), accounts);
        Checks.due("ESCROWS", x.sum(coin, 1), escrows);
        Checks.due("VOUCHERS", x.sum(coin, 2), vouchers);
        Checks.due("in MESSAGES", x.sum(coin, 3), messages);
    }

    private static void unknownNumbers() {
        BridgeClients x = new BridgeClients();
        Checks.open(x, 0, false);
        for (int wild : Checks.WILD) {
            Checks.due("balance side", x.balance(wild, 0, 0), Checks.UNKNOWN);
            Checks.due("balance account", x.balance(0, wild, 0), Checks.UNKNOWN);
            Checks.due("balance coin", x.balance(0, 0, wild), Checks.UNKNOWN);
            Checks.due("vouchers channel", x.vouchers(wild, 0, 0), Checks.UNKNOWN);
            Checks.due("vouchers side", x.vouchers(0, wild, 0), Checks.UNKNOWN);
            Checks.due("vouchers account", x.vouchers(0, 0, wild), Checks.UNKNOWN);
            Checks.due("sum coin", x.sum(wild, 0), Checks.UNKNOWN);
            Checks.due("sum what", x.sum(0, wild), Checks.OUTSIDE);
        }
        Checks.due("side 2", x.balance(2, 0, 0), Checks.UNKNOWN);
        Checks.due("account 4", x.balance(0, 4, 0), Checks.UNKNOWN);
        Checks.due("coin 2", x.balance(0, 0, 2), Checks.UNKNOWN);
        Checks.due("channel 1", x.vouchers(1, 0, 0), Checks.UNKNOWN);
        Checks.due("side 2", x.vouchers(0, 2, 0), Checks.UNKNOWN);
        Checks.due("account 4", x.vouchers(0, 0, 4), Checks.UNKNOWN);
    }
}
