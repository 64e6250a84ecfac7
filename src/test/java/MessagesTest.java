/** Promises 13 to 16 and 19: messages, from send() to their acknowledgement or the end of their time. */
public final class MessagesTest {
    public static void main(String[] args) {
        sendBounds();
        sendStates();
        sendLate();
        sendRoom();
        receiveWell();
        receiveRefusals();
        receiveOrder();
        receiveAtOpenEndAlone();
        acknowledge();
        acknowledgeFailed();
        acknowledgeOrder();
        acknowledgeAfterClose();
        timeout();
        timeoutOrdered();
        timeoutOfReceived();
        timedOutIsNotReceived();
        messageQuestions();
        Checks.end();
    }

    private static void sendBounds() {
        BridgeClients x = new BridgeClients();
        Checks.open(x, 0, false);
        for (int wild : Checks.WILD) {
            Checks.due("channel", x.send(wild, 0, 0, 0, 0, 1, 9), Checks.UNKNOWN);
            Checks.due("side", x.send(0, wild, 0, 0, 0, 1, 9), Checks.UNKNOWN);
            Checks.due("account", x.send(0, 0, wild, 0, 0, 1, 9), Checks.UNKNOWN);
            Checks.due("to", x.send(0, 0, 0, wild, 0, 1, 9), Checks.OUTSIDE);
            Checks.due("coin", x.send(0, 0, 0, 0, wild, 1, 9), Checks.UNKNOWN);
            Checks.due("amount", x.send(0, 0, 0, 0, 0, wild, 9), Checks.OUTSIDE);
            Checks.due("until", x.send(0, 0, 0, 0, 0, 1, wild), Checks.OUTSIDE);
        }
        Checks.due("channel 1", x.send(1, 0, 0, 8, 0, 1, 9), Checks.UNKNOWN);
        Checks.due("side 2", x.send(0, 2, 0, 8, 0, 1, 9), Checks.UNKNOWN);
        Checks.due("account 4", x.send(0, 0, 4, 8, 0, 1, 9), Checks.UNKNOWN);
        Checks.due("coin 2", x.send(0, 0, 0, 8, 2, 1, 9), Checks.UNKNOWN);
        Checks.due("to 8", x.send(0, 0, 0, 8, 0, 1, 9), Checks.OUTSIDE);
        Checks.due("amount 0", x.send(0, 0, 0, 0, 0, 0, 9), Checks.OUTSIDE);
        Checks.due("amount 1001", x.send(0, 0, 0, 0, 0, 1001, 9), Checks.OUTSIDE);
        Checks.due("until 0", x.send(0, 0, 0, 0, 0, 1, 0), Checks.OUTSIDE);
        Checks.due("until 201", x.send(0, 0, 0, 0, 0, 1, 201), Checks.OUTSIDE);
        Checks.due("nothing was sent", x.count(3), 0);
        Checks.due("nothing was taken", x.sum(0, 0), 4000);
        Checks.due("the edges", x.send(0, 0, 3, 7, 0, 1000, 200), 0);
        Checks.due("the other edges", x.send(0, 0, 0, 0, 0, 1, 2), 1);
    }

    private static void sendStates() {
        BridgeClients x = new BridgeClients();
        x.init(0, false, 7);
        Checks.due("INIT", x.send(0, 0, 0, 0, 0, 1, 9), Checks.STATE);
        Checks.due("none", x.send(0, 1, 0, 0, 1, 1, 9), Checks.STATE);
        x.meet(0, 7, Checks.bring(x, 0));
        Checks.due("TRY", x.send(0, 1, 0, 0, 1, 1, 9), Checks.STATE);
        x.agree(0, Checks.bring(x, 1));
        Checks.due("no vouchers", x.send(0, 0, 0, 0, 1, 1, 9), Checks.STATE);
        Checks.due("OPEN, all", x.send(0, 0, 0, 0, 0, 1000, 9), 0);
        Checks.due("it has less", x.send(0, 0, 0, 0, 0, 1, 9), Checks.STATE);
        Checks.due("another account", x.send(0, 0, 1, 0, 0, 999, 9), 1);
        Checks.due("one is left", x.send(0, 0, 1, 0, 0, 2, 9), Checks.STATE);
        Checks.due("one is left", x.send(0, 0, 1, 0, 0, 1, 9), 2);
        Checks.freeze(x, 0, 1);
        Checks.due("frozen", x.send(0, 0, 2, 0, 0, 1, 1), Checks.FROZEN);
        Checks.due("state before frozen", x.send(0, 0, 1, 0, 0, 1, 1), Checks.STATE);
        x.renew(0);
        Checks.due("renewed", x.send(0, 0, 2, 0, 0, 1, 1), 3);
        x.close(0, 0);
        Checks.due("CLOSED", x.send(0, 0, 2, 0, 0, 1, 9), Checks.STATE);
    }

    private static void sendLate() {
        BridgeClients x = new BridgeClients();
        Checks.open(x, 0, false);
        for (int i = 0; i < 6; i++) {
            x.tick(1);
        }
        Checks.due("the client follows 1 alone", x.send(0, 0, 0, 0, 0, 1, 2), 0);
        Checks.due("follow 5", x.follow(0, 5, 3), 1);
        Checks.due("a higher one", x.send(0, 0, 0, 0, 0, 1, 4), Checks.LATE);
        Checks.due("that one, by a false mark", x.send(0, 0, 0, 0, 0, 1, 5), Checks.LATE);
        Checks.due("above it", x.send(0, 0, 0, 0, 0, 1, 6), 1);
        Checks.due("state before late", x.send(0, 0, 0, 0, 1, 1, 4), Checks.STATE);
    }

    private static void sendRoom() {
        BridgeClients x = new BridgeClients();
        Checks.open(x, 0, false);
        for (int i = 0; i < 60; i++) {
            Checks.due("number", x.send(0, i % 2, 0, 0, i % 2, 1, 9), i);
            Checks.due("which one of its END", x.message(i, 2), i / 2);
        }
        Checks.due("the 61st", x.send(0, 0, 0, 0, 0, 1, 9), Checks.ROOM);
        Checks.due("late before room", x.send(0, 0, 0, 0, 0, 1, 1), Checks.LATE);
        Checks.due("messages", x.count(3), 60);
        Checks.due("balance", x.balance(0, 0, 0), 970);
        Checks.due("the last one", x.message(59, 1), 1);
        Checks.due("no more", x.message(60, 1), Checks.UNKNOWN);
    }

    private static void receiveWell() {
        BridgeClients x = new BridgeClients();
        Checks.open(x, 0, false);
        Checks.due("send", x.send(0, 0, 1, 3, 0, 250, 50), 0);
        Checks.due("receive", x.receive(0, Checks.bring(x, 0)), 1);
        Checks.due("vouchers", x.vouchers(0, 1, 3), 250);
        Checks.due("send them home", x.send(0, 1, 3, 2, 0, 200, 50), 1);
        Checks.due("vouchers are no more", x.vouchers(0, 1, 3), 50);
        Checks.due("no escrow there", x.end(0, 1, 3), 0);
        Checks.due("escrow as before", x.end(0, 0, 3), 250);
        Checks.due("receive at home", x.receive(1, Checks.bring(x, 1)), 1);
        Checks.due("escrow", x.end(0, 0, 3), 50);
        Checks.due("the account", x.balance(0, 2, 0), 1200);
        Checks.due("all of an account's", x.send(0, 0, 2, 0, 0, 1000, 50), 2);
    }

    private static void receiveRefusals() {
        BridgeClients x = new BridgeClients();
        Checks.open(x, 0, false);
        for (int wild : Checks.WILD) {
            Checks.due("message", x.receive(wild, 1), Checks.UNKNOWN);
        }
        Checks.due("none yet", x.receive(0, 1), Checks.UNKNOWN);
        int early = Checks.bring(x, 0);
        Checks.due("send", x.send(0, 0, 0, 0, 0, 9, 3), 0);
        Checks.due("before it", x.receive(0, early), Checks.PROOF);
        int height = x.tick(0);
        Checks.due("not followed", x.receive(0, height), Checks.HEADER);
        for (int wild : Checks.WILD) {
            Checks.due("height", x.receive(0, wild), Checks.HEADER);
        }
        Checks.due("follow false", x.follow(1, height, 1), 1);
        Checks.due("false mark", x.receive(0, height), Checks.HEADER);
        Checks.freeze(x, 1, height);
        Checks.due("frozen", x.receive(0, height), Checks.FROZEN);
        x.renew(1);
        x.follow(1, height, 0);
        x.follow(1, early, 0);
        x.tick(1);
        Checks.due("HEIGHT is 2, below 3", x.count(1), 2);
        Checks.due("receive", x.receive(0, height), 1);
        Checks.due("received", x.receive(0, height), Checks.STATE);
        Checks.due("once alone", x.vouchers(0, 1, 0), 9);
        Checks.due("send", x.send(0, 0, 0, 0, 0, 9, 3), 1);
        height = Checks.bring(x, 0);
        x.tick(1);
        Checks.due("HEIGHT is UNTIL", x.receive(1, height), Checks.LATE);
        Checks.due("proof before late", x.receive(1, early), Checks.PROOF);
        Checks.due("header before late", x.receive(1, height + 1), Checks.HEADER);
    }

    private static void receiveOrder() {
        BridgeClients x = new BridgeClients();
        int ordered = Checks.open(x, 0, true);
        int free = Checks.open(x, 1, false);
        x.send(ordered, 0, 0, 0, 0, 1, 90);
        x.send(free, 0, 0, 0, 0, 2, 90);
        x.send(ordered, 1, 0, 0, 1, 3, 90);
        x.send(ordered, 0, 0, 5, 0, 4, 90);
        x.send(free, 0, 0, 0, 0, 5, 90);
        x.send(ordered, 0, 0, 0, 0, 6, 90);
        int of0 = Checks.bring(x, 0);
        int of1 = Checks.bring(x, 1);
        Checks.due("not the first", x.receive(3, of0), Checks.ORDER);
        Checks.due("free order", x.receive(4, of0), 1);
        Checks.due("the other direction is its own", x.receive(2, of1), 1);
        Checks.due("first", x.receive(0, of0), 1);
        Checks.due("not the third", x.receive(5, of0), Checks.ORDER);
        Checks.due("second FAILED", x.receive(3, of0), 0);
        Checks.due("third", x.receive(5, of0), 1);
        Checks.due("free order", x.receive(1, of0), 1);
        lateBeforeOrder();
    }

    private static void lateBeforeOrder() {
        BridgeClients x = new BridgeClients();
        Checks.open(x, 0, true);
        x.send(0, 0, 0, 0, 0, 1, 90);
        x.send(0, 0, 0, 0, 0, 1, 2);
        int height = Checks.bring(x, 0);
        x.tick(1);
        Checks.due("late before order", x.receive(1, height), Checks.LATE);
    }

    private static void receiveAtOpenEndAlone() {
        BridgeClients x = new BridgeClients();
        x.init(0, false, 7);
        x.meet(0, 7, Checks.bring(x, 0));
        x.agree(0, Checks.bring(x, 1));
        Checks.due("send", x.send(0, 0, 0, 0, 0, 1, 90), 0);
        int height = Checks.bring(x, 0);
        Checks.due("TRY", x.receive(0, height), Checks.STATE);
        Checks.due("confirm", x.confirm(0, height), 3);
        Checks.due("close", x.close(0, 1), 1);
        Checks.due("CLOSED", x.receive(0, height), Checks.STATE);
        Checks.freeze(x, 1, height);
        Checks.due("state before frozen", x.receive(0, height), Checks.STATE);
        senderMayBeClosed();
    }

    private static void senderMayBeClosed() {
        BridgeClients x = new BridgeClients();
        Checks.open(x, 0, false);
        x.send(0, 0, 0, 0, 0, 1, 90);
        x.close(0, 0);
        Checks.due("the END that sent it is CLOSED", x.receive(0, Checks.bring(x, 0)), 1);
    }

    private static void acknowledge() {
        BridgeClients x = new BridgeClients();
        Checks.open(x, 0, false);
        for (int wild : Checks.WILD) {
            Checks.due("message", x.acknowledge(wild, 1), Checks.UNKNOWN);
        }
        x.send(0, 0, 0, 2, 0, 30, 90);
        int sent = Checks.bring(x, 0);
        int early = Checks.bring(x, 1);
        Checks.due("not received", x.acknowledge(0, early), Checks.PROOF);
        Checks.due("receive", x.receive(0, sent), 1);
        Checks.due("not in that STATE", x.acknowledge(0, early), Checks.PROOF);
        Checks.due("not followed", x.acknowledge(0, early + 1), Checks.HEADER);
        for (int wild : Checks.WILD) {
            Checks.due("height", x.acknowledge(0, wild), Checks.HEADER);
        }
        int height = Checks.bring(x, 1);
        Checks.freeze(x, 0, early);
        Checks.due("frozen", x.acknowledge(0, height), Checks.FROZEN);
        x.renew(0);
        x.follow(0, height, 0);
        Checks.due("it STANDS", x.message(0, 8), 1);
        Checks.due("acknowledge", x.acknowledge(0, height), 1);
        Checks.due("it STANDS no more", x.message(0, 8), 0);
        Checks.due("nothing is back", x.message(0, 10), 0);
        Checks.due("balance", x.balance(0, 0, 0), 970);
        Checks.due("again", x.acknowledge(0, height), Checks.STATE);
        Checks.due("timeout", x.timeout(0, height), Checks.STATE);
        Checks.freeze(x, 0, height);
        Checks.due("state before frozen", x.acknowledge(0, height), Checks.STATE);
    }

    private static void acknowledgeFailed() {
        BridgeClients x = new BridgeClients();
        Checks.open(x, 0, false);
        x.send(0, 0, 0, 1, 0, 300, 90);
        x.send(0, 0, 0, 4, 0, 30, 90);
        int height = Checks.bring(x, 0);
        x.receive(0, height);
        Checks.due("no account 4", x.receive(1, height), 0);
        Checks.due("send vouchers", x.send(0, 1, 1, 7, 0, 120, 90), 2);
        height = Checks.bring(x, 1);
        Checks.due("no account 7", x.receive(2, height), 0);
        Checks.due("escrow as before", x.end(0, 0, 3), 330);
        Checks.due("not back yet", x.message(1, 10), 0);
        Checks.due("acknowledge", x.acknowledge(1, height), 0);
        Checks.due("back from the escrow", x.end(0, 0, 3), 300);
        Checks.due("back", x.balance(0, 0, 0), 700);
        Checks.due("it came back", x.message(1, 10), 1);
        Checks.due("vouchers before", x.vouchers(0, 1, 1), 180);
        Checks.due("acknowledge vouchers", x.acknowledge(2, Checks.bring(x, 0)), 0);
        Checks.due("vouchers are back", x.vouchers(0, 1, 1), 300);
        Checks.due("no escrow there", x.end(0, 1, 3), 0);
        Checks.due("escrow as before", x.end(0, 0, 3), 300);
    }

    private static void acknowledgeOrder() {
        BridgeClients x = new BridgeClients();
        int ordered = Checks.open(x, 0, true);
        int free = Checks.open(x, 0, false);
        x.send(ordered, 1, 0, 0, 1, 1, 90);
        x.send(ordered, 0, 0, 0, 0, 1, 90);
        x.send(ordered, 0, 0, 0, 0, 1, 90);
        x.send(free, 0, 0, 0, 0, 1, 90);
        x.send(free, 0, 0, 0, 0, 1, 90);
        int height = Checks.bring(x, 0);
        for (int i = 1; i < 5; i++) {
            Checks.due("receive", x.receive(i, height), 1);
        }
        height = Checks.bring(x, 1);
        Checks.due("free order", x.acknowledge(4, height), 1);
        Checks.due("one before it STANDS", x.acknowledge(2, height), Checks.ORDER);
        Checks.due("first of its END", x.acknowledge(1, height), 1);
        Checks.due("second of its END", x.acknowledge(2, height), 1);
        Checks.due("free order", x.acknowledge(3, height), 1);
    }

    private static void acknowledgeAfterClose() {
        BridgeClients x = new BridgeClients();
        Checks.open(x, 0, true);
        x.send(0, 0, 0, 6, 0, 8, 90);
        Checks.due("receive", x.receive(0, Checks.bring(x, 0)), 0);
        Checks.due("close", x.close(0, 0), 1);
        Checks.due("close", x.close(0, 1), 1);
        Checks.due("acknowledge", x.acknowledge(0, Checks.bring(x, 1)), 0);
        Checks.due("back", x.balance(0, 0, 0), 1000);
    }

    private static void timeout() {
        BridgeClients x = new BridgeClients();
        Checks.open(x, 0, false);
        for (int wild : Checks.WILD) {
            Checks.due("message", x.timeout(wild, 1), Checks.UNKNOWN);
        }
        x.send(0, 0, 3, 3, 0, 77, 3);
        Checks.due("below UNTIL", x.timeout(0, Checks.bring(x, 1)), Checks.LATE);
        Checks.due("not followed", x.timeout(0, 3), Checks.HEADER);
        for (int wild : Checks.WILD) {
            Checks.due("height", x.timeout(0, wild), Checks.HEADER);
        }
        int height = Checks.bring(x, 1);
        Checks.freeze(x, 0, 2);
        Checks.due("frozen", x.timeout(0, height), Checks.FROZEN);
        x.renew(0);
        x.follow(0, height, 5);
        Checks.due("false mark", x.timeout(0, height), Checks.HEADER);
        Checks.freeze(x, 0, height);
        x.renew(0);
        x.follow(0, height, 0);
        Checks.due("timeout", x.timeout(0, height), 77);
        Checks.due("back", x.balance(0, 3, 0), 1000);
        Checks.due("escrow", x.end(0, 0, 3), 0);
        Checks.due("came back", x.message(0, 10), 1);
        Checks.due("STANDS no more", x.message(0, 8), 0);
        Checks.due("not received", x.message(0, 9), 0);
        Checks.due("a free channel is left OPEN", x.end(0, 0, 0), 3);
        Checks.due("again", x.timeout(0, height), Checks.STATE);
        Checks.due("acknowledge", x.acknowledge(0, height), Checks.STATE);
        timeoutOfVouchers();
    }

    private static void timeoutOfVouchers() {
        BridgeClients x = new BridgeClients();
        Checks.open(x, 0, false);
        x.send(0, 0, 0, 2, 0, 40, 90);
        x.receive(0, Checks.bring(x, 0));
        int until = x.count(0) + 1;
        Checks.due("send", x.send(0, 1, 2, 0, 0, 25, until), 1);
        Checks.due("timeout", x.timeout(1, Checks.bring(x, 0)), 25);
        Checks.due("vouchers are back", x.vouchers(0, 1, 2), 40);
        Checks.due("escrow", x.end(0, 0, 3), 40);
    }

    private static void timeoutOrdered() {
        BridgeClients x = new BridgeClients();
        Checks.open(x, 0, true);
        x.send(0, 0, 0, 0, 0, 1, 90);
        x.send(0, 0, 0, 0, 0, 2, 2);
        x.send(0, 0, 0, 0, 0, 4, 2);
        int height = Checks.bring(x, 1);
        Checks.due("no order is asked for", x.timeout(2, height), 4);
        Checks.due("this END is CLOSED", x.end(0, 0, 0), 4);
        Checks.due("the other one is OPEN", x.end(0, 1, 0), 3);
        int closedIn = x.tick(0);
        Checks.due("it was OPEN", x.stepAt(0, 0, closedIn - 1), 3);
        Checks.due("it is CLOSED in the STATE", x.stepAt(0, 0, closedIn), 4);
        x.tick(0);
        Checks.due("on a CLOSED END", x.timeout(1, height), 2);
        x.tick(0);
        Checks.due("CLOSED once alone", x.stepAt(0, 0, closedIn), 4);
        x.follow(1, closedIn, 0);
        Checks.due("shut", x.shut(0, 1, closedIn), 1);
    }

    private static void timeoutOfReceived() {
        BridgeClients x = new BridgeClients();
        Checks.open(x, 0, false);
        x.send(0, 0, 0, 0, 0, 5, 3);
        int early = Checks.bring(x, 1);
        Checks.due("receive at a HEIGHT below UNTIL", x.receive(0, Checks.bring(x, 0)), 1);
        int height = Checks.bring(x, 1);
        Checks.due("received", x.timeout(0, height), Checks.PROOF);
        Checks.due("not received then, but below UNTIL", x.timeout(0, early), Checks.LATE);
        x.send(0, 0, 0, 0, 0, 5, 9);
        Checks.due("receive", x.receive(1, Checks.bring(x, 0)), 1);
        Checks.due("proof before late", x.timeout(1, Checks.bring(x, 1)), Checks.PROOF);
    }

    private static void timedOutIsNotReceived() {
        BridgeClients x = new BridgeClients();
        Checks.open(x, 0, false);
        x.send(0, 0, 0, 0, 0, 5, 2);
        int stood = Checks.bring(x, 0);
        Checks.due("timeout", x.timeout(0, Checks.bring(x, 1)), 5);
        int gone = Checks.bring(x, 0);
        Checks.due("it stood in that STATE", x.receive(0, stood), Checks.LATE);
        Checks.due("it stands in that STATE no more", x.receive(0, gone), Checks.PROOF);
    }

    private static void messageQuestions() {
        BridgeClients x = new BridgeClients();
        Checks.open(x, 0, false);
        Checks.open(x, 1, true);
        x.send(1, 1, 0, 0, 1, 9, 90);
        x.send(1, 1, 2, 5, 1, 17, 99);
        int[] sent = {1, 1, 1, 17, 1, 2, 5, 99, 1, 0, 0};
        askAll(x, 1, sent);
        int height = Checks.bring(x, 1);
        x.receive(0, height);
        x.receive(1, height);
        int[] received = {1, 1, 1, 17, 1, 2, 5, 99, 1, 2, 0};
        askAll(x, 1, received);
        height = Checks.bring(x, 0);
        x.acknowledge(0, height);
        x.acknowledge(1, height);
        int[] failed = {1, 1, 1, 17, 1, 2, 5, 99, 0, 2, 1};
        askAll(x, 1, failed);
        int[] well = {1, 1, 0, 9, 1, 0, 0, 90, 0, 1, 0};
        askAll(x, 0, well);
        Checks.due("what 11", x.message(1, 11), Checks.OUTSIDE);
        Checks.due("unknown before outside", x.message(2, 11), Checks.UNKNOWN);
        for (int wild : Checks.WILD) {
            Checks.due("message", x.message(wild, 0), Checks.UNKNOWN);
            Checks.due("what", x.message(0, wild), Checks.OUTSIDE);
        }
    }

    private static void askAll(BridgeClients x, int message, int[] due) {
        for (int what = 0; what < due.length; what++) {
            Checks.due("message " + message + " " + what, x.message(message, what), due[what]);
        }
    }
}
