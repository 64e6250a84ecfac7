import java.util.Arrays;

/** Two ledgers, each with a client of the other one inside; ../shared/DOC.md has the promises. */
public final class BridgeClients {
    public static final int UNKNOWN = -1, OUTSIDE = -2, STATE = -3, FROZEN = -4, HEADER = -5, PROOF = -6, LATE = -7, ORDER = -8, VERSION = -9, ROOM = -10;

    private static final int SIDES = 2, COINS = 2, ACCOUNTS = 4, MAX_CHANNELS = 4, MAX_MESSAGES = 60, MAX_HEIGHT = 200;
    private static final int MAX_MARK = 9, MAX_OFFER = 7, MAX_TO = 7, MAX_AMOUNT = 1000, COINS_AT_FIRST = 1000;
    private static final int NONE = 0, INIT = 1, TRY = 2, OPEN = 3, CLOSED = 4;
    private static final int NOT_RECEIVED = 0, WELL = 1, FAILED = 2;
    private static final int NOT_FOLLOWED = 0, BY_RIGHT_MARK = 1, BY_FALSE_MARK = 2;

    /** No refusal is 0, so that 0 can say that there is none. */
    private static final int FINE = 0;

    /** Above every height, so that what was done "then" stands in no STATE. */
    private static final int NEVER = MAX_HEIGHT + 1;

    private final Ledger[] ledgers = new Ledger[SIDES];
    private final Channel[] channels = new Channel[MAX_CHANNELS];
    private final Message[] messages = new Message[MAX_MESSAGES];
    private int channelCount;
    private int messageCount;

    /** All rows are made here and used again after clear(), so that no other call makes an object. */
    public BridgeClients() {
        for (int i = 0; i < SIDES; i++) {
            ledgers[i] = new Ledger();
        }
        for (int i = 0; i < MAX_CHANNELS; i++) {
            channels[i] = new Channel();
        }
        for (int i = 0; i < MAX_MESSAGES; i++) {
            messages[i] = new Message();
        }
        beginAnew();
    }

    // ---- ledgers and clients

    public int tick(int side) {
        if (!isSide(side)) {
            return UNKNOWN;
        }
        Ledger ledger = ledgers[side];
        if (ledger.height >= MAX_HEIGHT) {
            return ROOM;
        }
        ledger.height++;
        return ledger.height;
    }

    public int follow(int side, int height, int mark) {
        if (!isSide(side)) {
            return UNKNOWN;
        }
        if (!isWithin(height, 1, ledgers[1 - side].height) || !isWithin(mark, 0, MAX_MARK)) {
            return OUTSIDE;
        }
        Client client = ledgers[side].client;
        boolean known = client.howFollowed(height) != NOT_FOLLOWED;
        if (known && client.isToldMark(height, mark)) {
            return STATE;
        }
        if (client.frozen) {
            return FROZEN;
        }
        if (known) {
            client.frozen = true;
            return 2;
        }
        client.add(height, mark);
        return 1;
    }

    public int renew(int side) {
        if (!isSide(side)) {
            return UNKNOWN;
        }
        Client client = ledgers[side].client;
        if (!client.frozen) {
            return STATE;
        }
        int had = client.howMany;
        client.forgetAll();
        return had;
    }

    public int client(int side, int what) {
        if (!isSide(side)) {
            return UNKNOWN;
        }
        Client client = ledgers[side].client;
        switch (what) {
            case 0: return oneIf(client.frozen);
            case 1: return client.greatest;
            case 2: return client.howMany;
            default: return OUTSIDE;
        }
    }

    public int follows(int side, int height) {
        if (!isSide(side)) {
            return UNKNOWN;
        }
        if (!isWithin(height, 1, MAX_HEIGHT)) {
            return OUTSIDE;
        }
        return ledgers[side].client.howFollowed(height);
    }

    // ---- channels

    public int init(int side, boolean ordered, int offer) {
        if (!isSide(side)) {
            return UNKNOWN;
        }
        if (!isWithin(offer, 1, MAX_OFFER)) {
            return OUTSIDE;
        }
        if (channelCount >= MAX_CHANNELS) {
            return ROOM;
        }
        Channel made = channels[channelCount];
        made.first = side;
        made.ordered = ordered;
        made.ends[side].offer = offer;
        made.ends[side].comeTo(INIT, ledgers[side].height);
        channelCount++;
        return channelCount - 1;
    }

    public int meet(int channel, int offer, int height) {
        if (!isChannel(channel)) {
            return UNKNOWN;
        }
        if (!isWithin(offer, 1, MAX_OFFER)) {
            return OUTSIDE;
        }
        int side = 1 - channels[channel].first;
        End here = channels[channel].ends[side];
        End there = channels[channel].ends[1 - side];
        int refusal = refusalOfStep(channel, side, NONE, INIT, height);
        if (refusal != FINE) {
            return refusal;
        }
        int version = greatestVersion(offer & there.offer);
        if (version == 0) {
            return VERSION;
        }
        here.offer = offer;
        here.version = version;
        here.comeTo(TRY, ledgers[side].height);
        return version;
    }

    public int agree(int channel, int height) {
        if (!isChannel(channel)) {
            return UNKNOWN;
        }
        int side = channels[channel].first;
        End here = channels[channel].ends[side];
        End there = channels[channel].ends[1 - side];
        int refusal = refusalOfStep(channel, side, INIT, TRY, height);
        if (refusal != FINE) {
            return refusal;
        }
        here.version = there.version;
        here.comeTo(OPEN, ledgers[side].height);
        return here.version;
    }

    public int confirm(int channel, int height) {
        if (!isChannel(channel)) {
            return UNKNOWN;
        }
        int side = 1 - channels[channel].first;
        End here = channels[channel].ends[side];
        int refusal = refusalOfStep(channel, side, TRY, OPEN, height);
        if (refusal != FINE) {
            return refusal;
        }
        here.comeTo(OPEN, ledgers[side].height);
        return here.version;
    }

    public int close(int channel, int side) {
        if (!isChannel(channel) || !isSide(side)) {
            return UNKNOWN;
        }
        End here = channels[channel].ends[side];
        if (here.step != OPEN) {
            return STATE;
        }
        here.comeTo(CLOSED, ledgers[side].height);
        return 1;
    }

    public int shut(int channel, int side, int height) {
        if (!isChannel(channel) || !isSide(side)) {
            return UNKNOWN;
        }
        int refusal = refusalOfStep(channel, side, OPEN, CLOSED, height);
        if (refusal != FINE) {
            return refusal;
        }
        channels[channel].ends[side].comeTo(CLOSED, ledgers[side].height);
        return 1;
    }

    // ---- messages

    public int send(int channel, int side, int account, int to, int coin, int amount, int until) {
        if (!isChannel(channel) || !isSide(side) || !isAccount(account) || !isCoin(coin)) {
            return UNKNOWN;
        }
        if (!isWithin(to, 0, MAX_TO) || !isWithin(amount, 1, MAX_AMOUNT) || !isWithin(until, 1, MAX_HEIGHT)) {
            return OUTSIDE;
        }
        if (channels[channel].ends[side].step != OPEN || purse(channel, side, coin)[account] < amount) {
            return STATE;
        }
        Client client = ledgers[side].client;
        if (client.frozen) {
            return FROZEN;
        }
        if (client.greatest >= until) {
            return LATE;
        }
        if (messageCount >= MAX_MESSAGES) {
            return ROOM;
        }
        takeIn(channel, side, account, coin, amount);
        write(channel, side, account, to, coin, amount, until);
        return messageCount - 1;
    }

    public int receive(int message, int height) {
        if (!isMessage(message)) {
            return UNKNOWN;
        }
        Message sent = messages[message];
        int side = 1 - sent.side;
        End here = channels[sent.channel].ends[side];
        if (here.step != OPEN || sent.outcome != NOT_RECEIVED) {
            return STATE;
        }
        int refusal = ledgers[side].client.refusal(height);
        if (refusal != FINE) {
            return refusal;
        }
        if (!sent.standsIn(height)) {
            return PROOF;
        }
        if (ledgers[side].height >= sent.until) {
            return LATE;
        }
        if (channels[sent.channel].ordered && !areAllBeforeReceived(message)) {
            return ORDER;
        }
        boolean well = isAccount(sent.to);
        if (well) {
            giveOut(sent.channel, side, sent.to, sent.coin, sent.amount);
        }
        here.received++;
        sent.outcome = well ? WELL : FAILED;
        sent.receivedAt = ledgers[side].height;
        return oneIf(well);
    }

    public int acknowledge(int message, int height) {
        if (!isMessage(message)) {
            return UNKNOWN;
        }
        Message sent = messages[message];
        int refusal = refusalAtSender(sent, height);
        if (refusal != FINE) {
            return refusal;
        }
        if (!sent.isReceivedIn(height)) {
            return PROOF;
        }
        if (channels[sent.channel].ordered && standsOneBefore(message)) {
            return ORDER;
        }
        finish(sent);
        if (sent.outcome == FAILED) {
            giveBack(sent);
        }
        return oneIf(sent.outcome == WELL);
    }

    public int timeout(int message, int height) {
        if (!isMessage(message)) {
            return UNKNOWN;
        }
        Message sent = messages[message];
        int refusal = refusalAtSender(sent, height);
        if (refusal != FINE) {
            return refusal;
        }
        if (sent.isReceivedIn(height)) {
            return PROOF;
        }
        if (height < sent.until) {
            return LATE;
        }
        finish(sent);
        giveBack(sent);
        End here = channels[sent.channel].ends[sent.side];
        if (channels[sent.channel].ordered && here.step == OPEN) {
            here.comeTo(CLOSED, ledgers[sent.side].height);
        }
        return sent.amount;
    }

    // ---- questions

    public int end(int channel, int side, int what) {
        if (!isChannel(channel) || !isSide(side)) {
            return UNKNOWN;
        }
        End asked = channels[channel].ends[side];
        switch (what) {
            case 0: return asked.step;
            case 1: return asked.offer;
            case 2: return asked.version;
            case 3: return asked.escrow;
            case 4: return asked.sent;
            case 5: return asked.received;
            case 6: return oneIf(channels[channel].ordered);
            default: return OUTSIDE;
        }
    }

    public int stepAt(int channel, int side, int height) {
        if (!isChannel(channel) || !isSide(side)) {
            return UNKNOWN;
        }
        if (!isWithin(height, 0, ledgers[side].height)) {
            return OUTSIDE;
        }
        return channels[channel].ends[side].stepIn(height);
    }

    public int message(int message, int what) {
        if (!isMessage(message)) {
            return UNKNOWN;
        }
        Message asked = messages[message];
        switch (what) {
            case 0: return asked.channel;
            case 1: return asked.side;
            case 2: return asked.place;
            case 3: return asked.amount;
            case 4: return asked.coin;
            case 5: return asked.account;
            case 6: return asked.to;
            case 7: return asked.until;
            case 8: return oneIf(asked.stands);
            case 9: return asked.outcome;
            case 10: return oneIf(asked.cameBack);
            default: return OUTSIDE;
        }
    }

    public int balance(int side, int account, int coin) {
        if (!isSide(side) || !isAccount(account) || !isCoin(coin)) {
            return UNKNOWN;
        }
        if (coin == side) {
            return ledgers[side].coins[account];
        }
        int all = 0;
        for (int i = 0; i < channelCount; i++) {
            all += channels[i].ends[side].vouchers[account];
        }
        return all;
    }

    public int vouchers(int channel, int side, int account) {
        if (!isChannel(channel) || !isSide(side) || !isAccount(account)) {
            return UNKNOWN;
        }
        return channels[channel].ends[side].vouchers[account];
    }

    public int sum(int coin, int what) {
        if (!isCoin(coin)) {
            return UNKNOWN;
        }
        switch (what) {
            case 0: return total(ledgers[coin].coins);
            case 1: return allEscrows(coin);
            case 2: return allVouchers(1 - coin);
            case 3: return onTheWay(coin);
            default: return OUTSIDE;
        }
    }

    public int count(int what) {
        switch (what) {
            case 0: return ledgers[0].height;
            case 1: return ledgers[1].height;
            case 2: return channelCount;
            case 3: return messageCount;
            case 4: return howManyStand();
            default: return OUTSIDE;
        }
    }

    public int clear() {
        int had = messageCount;
        beginAnew();
        return had;
    }

    // ---- what there is

    private static boolean isWithin(int number, int least, int most) {
        return number >= least && number <= most;
    }

    private static boolean isSide(int side) {
        return isWithin(side, 0, SIDES - 1);
    }

    private static boolean isCoin(int coin) {
        return isWithin(coin, 0, COINS - 1);
    }

    private static boolean isAccount(int account) {
        return isWithin(account, 0, ACCOUNTS - 1);
    }

    private boolean isChannel(int channel) {
        return isWithin(channel, 0, channelCount - 1);
    }

    private boolean isMessage(int message) {
        return isWithin(message, 0, messageCount - 1);
    }

    private static int oneIf(boolean so) {
        return so ? 1 : 0;
    }

    // ---- refusals that several calls share

    /** The END at this side must be at one STEP now, and the other END PROVED to be at another one. */
    private int refusalOfStep(int channel, int side, int stepHere, int stepThere, int height) {
        End[] ends = channels[channel].ends;
        if (ends[side].step != stepHere) {
            return STATE;
        }
        int refusal = ledgers[side].client.refusal(height);
        if (refusal != FINE) {
            return refusal;
        }
        return ends[1 - side].stepIn(height) == stepThere ? FINE : PROOF;
    }

    private int refusalAtSender(Message sent, int height) {
        if (!sent.stands) {
            return STATE;
        }
        return ledgers[sent.side].client.refusal(height);
    }

    // ---- the order of messages

    private boolean areAllBeforeReceived(int message) {
        for (int i = 0; i < message; i++) {
            if (messages[i].isOfSameEnd(messages[message]) && messages[i].outcome == NOT_RECEIVED) {
                return false;
            }
        }
        return true;
    }

    private boolean standsOneBefore(int message) {
        for (int i = 0; i < message; i++) {
            if (messages[i].isOfSameEnd(messages[message]) && messages[i].stands) {
                return true;
            }
        }
        return false;
    }

    // ---- the ways of coins and messages

    /** What the accounts of a side can send of a coin by a channel. */
    private int[] purse(int channel, int side, int coin) {
        return coin == side ? ledgers[side].coins : channels[channel].ends[side].vouchers;
    }

    private void takeIn(int channel, int side, int account, int coin, int amount) {
        purse(channel, side, coin)[account] -= amount;
        if (coin == side) {
            channels[channel].ends[side].escrow += amount;
        }
    }

    private void giveOut(int channel, int side, int account, int coin, int amount) {
        purse(channel, side, coin)[account] += amount;
        if (coin == side) {
            channels[channel].ends[side].escrow -= amount;
        }
    }

    private void write(int channel, int side, int account, int to, int coin, int amount, int until) {
        End here = channels[channel].ends[side];
        Message made = messages[messageCount];
        made.channel = channel;
        made.side = side;
        made.place = here.sent;
        made.account = account;
        made.to = to;
        made.coin = coin;
        made.amount = amount;
        made.until = until;
        made.beginToStand(ledgers[side].height);
        here.sent++;
        messageCount++;
    }

    private void finish(Message sent) {
        sent.stands = false;
        sent.finishedAt = ledgers[sent.side].height;
    }

    private void giveBack(Message sent) {
        giveOut(sent.channel, sent.side, sent.account, sent.coin, sent.amount);
        sent.cameBack = true;
    }

    private static int greatestVersion(int offers) {
        if ((offers & 4) != 0) {
            return 3;
        }
        if ((offers & 2) != 0) {
            return 2;
        }
        return offers & 1;
    }

    // ---- totals

    private static int total(int[] numbers) {
        int all = 0;
        for (int i = 0; i < numbers.length; i++) {
            all += numbers[i];
        }
        return all;
    }

    private int allEscrows(int side) {
        int all = 0;
        for (int i = 0; i < channelCount; i++) {
            all += channels[i].ends[side].escrow;
        }
        return all;
    }

    private int allVouchers(int side) {
        int all = 0;
        for (int i = 0; i < channelCount; i++) {
            all += total(channels[i].ends[side].vouchers);
        }
        return all;
    }

    private int onTheWay(int coin) {
        int all = 0;
        for (int i = 0; i < messageCount; i++) {
            Message sent = messages[i];
            if (sent.coin == coin && sent.outcome != WELL && !sent.cameBack) {
                all += sent.amount;
            }
        }
        return all;
    }

    private int howManyStand() {
        int all = 0;
        for (int i = 0; i < messageCount; i++) {
            all += oneIf(messages[i].stands);
        }
        return all;
    }

    /** MESSAGES are left as they are: each is written whole when it is sent. */
    private void beginAnew() {
        for (int i = 0; i < SIDES; i++) {
            ledgers[i].beginAnew();
        }
        for (int i = 0; i < MAX_CHANNELS; i++) {
            channels[i].ends[0].beginAnew();
            channels[i].ends[1].beginAnew();
        }
        channelCount = 0;
        messageCount = 0;
    }

    private static final class Ledger {
        private final int[] coins = new int[ACCOUNTS];
        private final Client client = new Client();
        private int height;

        private void beginAnew() {
            Arrays.fill(coins, COINS_AT_FIRST);
            client.forgetAll();
            height = 0;
        }
    }

    private static final class Client {
        /** By height: the MARK and 1, so that 0 is left for a height that is not followed. */
        private final int[] told = new int[MAX_HEIGHT + 1];
        private boolean frozen;
        private int greatest;
        private int howMany;

        private int howFollowed(int height) {
            if (!isWithin(height, 1, MAX_HEIGHT) || told[height] == 0) {
                return NOT_FOLLOWED;
            }
            return isToldMark(height, 0) ? BY_RIGHT_MARK : BY_FALSE_MARK;
        }

        private boolean isToldMark(int height, int mark) {
            return isWithin(height, 1, MAX_HEIGHT) && told[height] == mark + 1;
        }

        private void add(int height, int mark) {
            if (isWithin(height, 1, MAX_HEIGHT)) {
                told[height] = mark + 1;
                greatest = Math.max(greatest, height);
                howMany++;
            }
        }

        /** Why nothing can be PROVED by this height here. */
        private int refusal(int height) {
            if (frozen) {
                return FROZEN;
            }
            return howFollowed(height) == BY_RIGHT_MARK ? FINE : HEADER;
        }

        private void forgetAll() {
            Arrays.fill(told, 0);
            frozen = false;
            greatest = 0;
            howMany = 0;
        }
    }

    private static final class Channel {
        private final End[] ends = {new End(), new End()};
        private boolean ordered;
        private int first;
    }

    private static final class End {
        /** By STEP: the HEIGHT at which the END came to it. STEPS only grow, so this tells every STATE. */
        private final int[] cameAt = new int[CLOSED + 1];
        /** By account, of the coin that is at HOME at the other side. */
        private final int[] vouchers = new int[ACCOUNTS];
        private int step;
        private int offer;
        private int version;
        private int escrow;
        private int sent;
        private int received;

        private void comeTo(int next, int height) {
            if (isWithin(next, INIT, CLOSED)) {
                step = next;
                cameAt[next] = height;
            }
        }

        private int stepIn(int height) {
            for (int i = CLOSED; i > NONE; i--) {
                if (cameAt[i] < height) {
                    return i;
                }
            }
            return NONE;
        }

        private void beginAnew() {
            Arrays.fill(cameAt, NEVER);
            Arrays.fill(vouchers, 0);
            step = NONE;
            offer = 0;
            version = 0;
            escrow = 0;
            sent = 0;
            received = 0;
        }
    }

    private static final class Message {
        private int channel;
        private int side;
        private int place;
        private int account;
        private int to;
        private int coin;
        private int amount;
        private int until;
        private boolean stands;
        private boolean cameBack;
        private int outcome;
        private int sentAt;
        private int finishedAt;
        private int receivedAt;

        private void beginToStand(int height) {
            stands = true;
            cameBack = false;
            outcome = NOT_RECEIVED;
            sentAt = height;
            finishedAt = NEVER;
            receivedAt = NEVER;
        }

        private boolean isOfSameEnd(Message other) {
            return channel == other.channel && side == other.side;
        }

        /** What is done at a HEIGHT stands from the next STATE on. */
        private boolean standsIn(int height) {
            return sentAt < height && height <= finishedAt;
        }

        private boolean isReceivedIn(int height) {
            return receivedAt < height;
        }
    }
}
