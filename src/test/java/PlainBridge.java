import java.util.ArrayList;
import java.util.Collections;
import java.util.HashMap;
import java.util.HashSet;
import java.util.List;
import java.util.Map;
import java.util.Set;

/**
 * The document's words taken as they stand, to compare the class with: THE STATE of each height is
 * kept as a copy of the side, and nothing is worked out that can be looked up.
 */
final class PlainBridge {
    static final class Sent {
        int channel, side, place, amount, coin, account, to, until, outcome;
        boolean cameBack;
    }

    static final class Side {
        final int[] steps = new int[4];
        final Set<Integer> standing = new HashSet<>();
        final Set<Integer> received = new HashSet<>();

        Side copy() {
            Side copy = new Side();
            System.arraycopy(steps, 0, copy.steps, 0, 4);
            copy.standing.addAll(standing);
            copy.received.addAll(received);
            return copy;
        }
    }

    final Side[] now = {new Side(), new Side()};
    final List<List<Side>> states = List.of(new ArrayList<>(), new ArrayList<>());
    final List<Map<Integer, Integer>> marks = List.of(new HashMap<>(), new HashMap<>());
    final boolean[] frozen = new boolean[2];
    final List<Integer> first = new ArrayList<>();
    final List<Boolean> ordered = new ArrayList<>();
    final int[][] offer = new int[4][2], version = new int[4][2], escrow = new int[4][2];
    final int[][][] vouchers = new int[4][2][4];
    final int[][] home = new int[2][4];
    final List<Sent> sent = new ArrayList<>();

    PlainBridge() {
        for (int side = 0; side < 2; side++) {
            states.get(side).add(new Side());
            for (int account = 0; account < 4; account++) {
                home[side][account] = 1000;
            }
        }
    }

    int height(int side) {
        return states.get(side).size() - 1;
    }

    int greatest(int side) {
        return marks.get(side).isEmpty() ? 0 : Collections.max(marks.get(side).keySet());
    }

    private static boolean in(int number, int least, int most) {
        return least <= number && number <= most;
    }

    private boolean isChannel(int channel) {
        return in(channel, 0, first.size() - 1);
    }

    private boolean isSent(int message) {
        return in(message, 0, sent.size() - 1);
    }

    /** FROZEN, HEADER, or 0. */
    private int noHeader(int side, int height) {
        if (frozen[side]) {
            return Checks.FROZEN;
        }
        return marks.get(side).getOrDefault(height, 1) == 0 ? 0 : Checks.HEADER;
    }

    private Side stateThere(int side, int height) {
        return states.get(1 - side).get(height);
    }

    int tick(int side) {
        if (!in(side, 0, 1)) return Checks.UNKNOWN;
        if (height(side) == 200) return Checks.ROOM;
        states.get(side).add(now[side].copy());
        return height(side);
    }

    int follow(int side, int height, int mark) {
        if (!in(side, 0, 1)) return Checks.UNKNOWN;
        if (!in(height, 1, height(1 - side)) || !in(mark, 0, 9)) return Checks.OUTSIDE;
        Integer had = marks.get(side).get(height);
        if (had != null && had == mark) return Checks.STATE;
        if (frozen[side]) return Checks.FROZEN;
        if (had != null) {
            frozen[side] = true;
            return 2;
        }
        marks.get(side).put(height, mark);
        return 1;
    }

    int renew(int side) {
        if (!in(side, 0, 1)) return Checks.UNKNOWN;
        if (!frozen[side]) return Checks.STATE;
        int had = marks.get(side).size();
        marks.get(side).clear();
        frozen[side] = false;
        return had;
    }

    int client(int side, int what) {
        if (!in(side, 0, 1)) return Checks.UNKNOWN;
        if (!in(what, 0, 2)) return Checks.OUTSIDE;
        return new int[] {frozen[side] ? 1 : 0, greatest(side), marks.get(side).size()}[what];
    }

    int follows(int side, int height) {
        if (!in(side, 0, 1)) return Checks.UNKNOWN;
        if (!in(height, 1, 200)) return Checks.OUTSIDE;
        Integer had = marks.get(side).get(height);
        return had == null ? 0 : had == 0 ? 1 : 2;
    }

    int init(int side, boolean inOrder, int offered) {
        if (!in(side, 0, 1)) return Checks.UNKNOWN;
        if (!in(offered, 1, 7)) return Checks.OUTSIDE;
        if (first.size() == 4) return Checks.ROOM;
        int channel = first.size();
        first.add(side);
        ordered.add(inOrder);
        offer[channel][side] = offered;
        now[side].steps[channel] = 1;
        return channel;
    }

    int meet(int channel, int offered, int height) {
        if (!isChannel(channel)) return Checks.UNKNOWN;
        if (!in(offered, 1, 7)) return Checks.OUTSIDE;
        int side = 1 - first.get(channel);
        if (now[side].steps[channel] != 0) return Checks.STATE;
        if (noHeader(side, height) != 0) return noHeader(side, height);
        if (stateThere(side, height).steps[channel] != 1) return Checks.PROOF;
        int greatest = 0;
        for (int v = 1; v <= 3; v++) {
            int bit = 1 << (v - 1);
            if ((offered & bit) != 0 && (offer[channel][1 - side] & bit) != 0) greatest = v;
        }
        if (greatest == 0) return Checks.VERSION;
        offer[channel][side] = offered;
        version[channel][side] = greatest;
        now[side].steps[channel] = 2;
        return greatest;
    }

    int agree(int channel, int height) {
        if (!isChannel(channel)) return Checks.UNKNOWN;
        int side = first.get(channel);
        int refusal = step(channel, side, 1, 2, 3, height);
        if (refusal != 0) return refusal;
        version[channel][side] = version[channel][1 - side];
        return version[channel][side];
    }

    int confirm(int channel, int height) {
        if (!isChannel(channel)) return Checks.UNKNOWN;
        int side = 1 - first.get(channel);
        int refusal = step(channel, side, 2, 3, 3, height);
        return refusal != 0 ? refusal : version[channel][side];
    }

    private int step(int channel, int side, int here, int there, int next, int height) {
        if (now[side].steps[channel] != here) return Checks.STATE;
        if (noHeader(side, height) != 0) return noHeader(side, height);
        if (stateThere(side, height).steps[channel] != there) return Checks.PROOF;
        now[side].steps[channel] = next;
        return 0;
    }

    int close(int channel, int side) {
        if (!isChannel(channel) || !in(side, 0, 1)) return Checks.UNKNOWN;
        if (now[side].steps[channel] != 3) return Checks.STATE;
        now[side].steps[channel] = 4;
        return 1;
    }

    int shut(int channel, int side, int height) {
        if (!isChannel(channel) || !in(side, 0, 1)) return Checks.UNKNOWN;
        int refusal = step(channel, side, 3, 4, 4, height);
        return refusal != 0 ? refusal : 1;
    }

    int send(int channel, int side, int account, int to, int coin, int amount, int until) {
        if (!isChannel(channel) || !in(side, 0, 1) || !in(account, 0, 3) || !in(coin, 0, 1)) return Checks.UNKNOWN;
        if (!in(to, 0, 7) || !in(amount, 1, 1000) || !in(until, 1, 200)) return Checks.OUTSIDE;
        int has = coin == side ? home[side][account] : vouchers[channel][side][account];
        if (now[side].steps[channel] != 3 || has < amount) return Checks.STATE;
        if (frozen[side]) return Checks.FROZEN;
        for (int followed : marks.get(side).keySet()) {
            if (followed >= until) return Checks.LATE;
        }
        if (sent.size() == 60) return Checks.ROOM;
        Sent made = new Sent();
        made.channel = channel;
        made.side = side;
        made.place = sentAt(channel, side);
        made.amount = amount;
        made.coin = coin;
        made.account = account;
        made.to = to;
        made.until = until;
        if (coin == side) {
            home[side][account] -= amount;
            escrow[channel][side] += amount;
        } else {
            vouchers[channel][side][account] -= amount;
        }
        now[side].standing.add(sent.size());
        sent.add(made);
        return sent.size() - 1;
    }

    private int sentAt(int channel, int side) {
        int all = 0;
        for (Sent s : sent) {
            if (s.channel == channel && s.side == side) all++;
        }
        return all;
    }

    private int receivedAt(int channel, int side) {
        int all = 0;
        for (Sent s : sent) {
            if (s.channel == channel && s.side != side && s.outcome != 0) all++;
        }
        return all;
    }

    private void get(int channel, int side, int account, int coin, int amount) {
        if (coin == side) {
            home[side][account] += amount;
            escrow[channel][side] -= amount;
        } else {
            vouchers[channel][side][account] += amount;
        }
    }

    int receive(int message, int height) {
        if (!isSent(message)) return Checks.UNKNOWN;
        Sent s = sent.get(message);
        int side = 1 - s.side;
        if (now[side].steps[s.channel] != 3 || now[side].received.contains(message)) return Checks.STATE;
        if (noHeader(side, height) != 0) return noHeader(side, height);
        if (!stateThere(side, height).standing.contains(message)) return Checks.PROOF;
        if (height(side) >= s.until) return Checks.LATE;
        for (int i = 0; ordered.get(s.channel) && i < message; i++) {
            Sent before = sent.get(i);
            boolean same = before.channel == s.channel && before.side == s.side;
            if (same && !now[side].received.contains(i)) return Checks.ORDER;
        }
        now[side].received.add(message);
        if (s.to > 3) {
            s.outcome = 2;
            return 0;
        }
        s.outcome = 1;
        get(s.channel, side, s.to, s.coin, s.amount);
        return 1;
    }

    int acknowledge(int message, int height) {
        if (!isSent(message)) return Checks.UNKNOWN;
        Sent s = sent.get(message);
        if (!now[s.side].standing.contains(message)) return Checks.STATE;
        if (noHeader(s.side, height) != 0) return noHeader(s.side, height);
        if (!stateThere(s.side, height).received.contains(message)) return Checks.PROOF;
        for (int i = 0; ordered.get(s.channel) && i < message; i++) {
            Sent before = sent.get(i);
            boolean same = before.channel == s.channel && before.side == s.side;
            if (same && now[s.side].standing.contains(i)) return Checks.ORDER;
        }
        now[s.side].standing.remove(message);
        if (s.outcome == 1) return 1;
        get(s.channel, s.side, s.account, s.coin, s.amount);
        s.cameBack = true;
        return 0;
    }

    int timeout(int message, int height) {
        if (!isSent(message)) return Checks.UNKNOWN;
        Sent s = sent.get(message);
        if (!now[s.side].standing.contains(message)) return Checks.STATE;
        if (noHeader(s.side, height) != 0) return noHeader(s.side, height);
        if (stateThere(s.side, height).received.contains(message)) return Checks.PROOF;
        if (height < s.until) return Checks.LATE;
        now[s.side].standing.remove(message);
        get(s.channel, s.side, s.account, s.coin, s.amount);
        s.cameBack = true;
        if (ordered.get(s.channel) && now[s.side].steps[s.channel] == 3) now[s.side].steps[s.channel] = 4;
        return s.amount;
    }

    int end(int channel, int side, int what) {
        if (!isChannel(channel) || !in(side, 0, 1)) return Checks.UNKNOWN;
        if (!in(what, 0, 6)) return Checks.OUTSIDE;
        return new int[] {now[side].steps[channel], offer[channel][side], version[channel][side],
            escrow[channel][side], sentAt(channel, side), receivedAt(channel, side),
            ordered.get(channel) ? 1 : 0}[what];
    }

    int stepAt(int channel, int side, int height) {
        if (!isChannel(channel) || !in(side, 0, 1)) return Checks.UNKNOWN;
        if (!in(height, 0, height(side))) return Checks.OUTSIDE;
        return states.get(side).get(height).steps[channel];
    }

    int message(int message, int what) {
        if (!isSent(message)) return Checks.UNKNOWN;
        if (!in(what, 0, 10)) return Checks.OUTSIDE;
        Sent s = sent.get(message);
        int stands = now[s.side].standing.contains(message) ? 1 : 0;
        return new int[] {s.channel, s.side, s.place, s.amount, s.coin, s.account, s.to, s.until, stands,
            s.outcome, s.cameBack ? 1 : 0}[what];
    }

    int balance(int side, int account, int coin) {
        if (!in(side, 0, 1) || !in(account, 0, 3) || !in(coin, 0, 1)) return Checks.UNKNOWN;
        if (coin == side) return home[side][account];
        int all = 0;
        for (int channel = 0; channel < 4; channel++) {
            all += vouchers[channel][side][account];
        }
        return all;
    }

    int vouchers(int channel, int side, int account) {
        if (!isChannel(channel) || !in(side, 0, 1) || !in(account, 0, 3)) return Checks.UNKNOWN;
        return vouchers[channel][side][account];
    }

    int sum(int coin, int what) {
        if (!in(coin, 0, 1)) return Checks.UNKNOWN;
        if (!in(what, 0, 3)) return Checks.OUTSIDE;
        int[] all = new int[4];
        for (int account = 0; account < 4; account++) {
            all[0] += home[coin][account];
            all[2] += balance(1 - coin, account, coin);
        }
        for (int channel = 0; channel < 4; channel++) {
            all[1] += escrow[channel][coin];
        }
        for (Sent s : sent) {
            if (s.coin == coin && s.outcome != 1 && !s.cameBack) all[3] += s.amount;
        }
        return all[what];
    }

    int count(int what) {
        if (!in(what, 0, 4)) return Checks.OUTSIDE;
        int stand = now[0].standing.size() + now[1].standing.size();
        return new int[] {height(0), height(1), first.size(), sent.size(), stand}[what];
    }
}
