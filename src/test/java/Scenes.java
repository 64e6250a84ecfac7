import java.util.ArrayList;
import java.util.List;

/**
 * Calls looked at one by one. An object is promised for 512 calls alone, so each look at what a call
 * has left makes an object anew, plays it to where the call is made, and asks a few questions of it.
 */
final class Scenes {
    /** How an object comes to where a test begins: at most 400 calls. */
    interface Play {
        void on(BridgeClients x);
    }

    /** The one call that is looked at. */
    interface Call {
        int on(BridgeClients x);
    }

    private record Question(String text, Call call) {
    }

    private static final int QUESTIONS_AT_ONCE = 50;
    private static final int MESSAGES_THAT_GO_ON = 5;
    private static final List<Question> QUESTIONS = questions();

    private Scenes() {
    }

    static Play then(Play first, Play second) {
        return x -> {
            first.on(x);
            second.on(x);
        };
    }

    static void answers(String what, Play play, Call call, int due) {
        Checks.due(what, call.on(made(play)), due);
    }

    /** The call has this answer, and all that can be asked, or done later, is as without it. */
    static void refused(String what, Play play, Call call, int due) {
        answers(what, play, call, due);
        same(what + " changes nothing", play, then(play, call::on));
    }

    /** Nothing that can be asked, or done later, tells the one from the other. */
    static void same(String what, Play one, Play other) {
        for (int from = 0; from < QUESTIONS.size(); from += QUESTIONS_AT_ONCE) {
            BridgeClients a = made(one);
            BridgeClients b = made(other);
            int to = Math.min(from + QUESTIONS_AT_ONCE, QUESTIONS.size());
            for (Question question : QUESTIONS.subList(from, to)) {
                Checks.quiet(what + ": " + question.text, question.call.on(b), question.call.on(a));
            }
        }
        List<Integer> due = future(made(one));
        List<Integer> got = future(made(other));
        for (int i = 0; i < due.size(); i++) {
            Checks.quiet(what + ": later call " + i, got.get(i), due.get(i));
        }
    }

    private static BridgeClients made(Play play) {
        BridgeClients x = new BridgeClients();
        play.on(x);
        return x;
    }

    private static List<Question> questions() {
        List<Question> all = new ArrayList<>();
        ask(all, "count", 5, 1, 1, (x, what, b, c) -> x.count(what));
        ask(all, "client", 2, 3, 1, (x, side, what, c) -> x.client(side, what));
        ask(all, "follows", 2, 200, 1, (x, side, height, c) -> x.follows(side, height + 1));
        ask(all, "end", 4, 2, 7, (x, channel, side, what) -> x.end(channel, side, what));
        ask(all, "stepAt", 4, 2, 201, (x, channel, side, height) -> x.stepAt(channel, side, height));
        ask(all, "message", 60, 11, 1, (x, message, what, c) -> x.message(message, what));
        ask(all, "balance", 2, 4, 2, (x, side, account, coin) -> x.balance(side, account, coin));
        ask(all, "vouchers", 4, 2, 4, (x, channel, side, account) -> x.vouchers(channel, side, account));
        ask(all, "sum", 2, 4, 1, (x, coin, what, c) -> x.sum(coin, what));
        return all;
    }

    private interface Three {
        int on(BridgeClients x, int a, int b, int c);
    }

    private static void ask(List<Question> all, String name, int as, int bs, int cs, Three call) {
        for (int i = 0; i < as * bs * cs; i++) {
            int a = i / (bs * cs);
            int b = i / cs % bs;
            int c = i % cs;
            all.add(new Question(name + " " + a + " " + b + " " + c, x -> call.on(x, a, b, c)));
        }
    }

    /** What proofs answer in the next BLOCK, of all channels and the first messages: this shows what no question does. */
    private static List<Integer> future(BridgeClients x) {
        List<Integer> seen = new ArrayList<>();
        int[] heights = new int[2];
        for (int side = 0; side < 2; side++) {
            seen.add(x.renew(side));
            seen.add(x.tick(side));
            heights[side] = x.count(side);
        }
        for (int side = 0; side < 2; side++) {
            seen.add(x.follow(1 - side, heights[side], 0));
        }
        for (int height : heights) {
            for (int channel = 0; channel < 4; channel++) {
                seen.add(x.meet(channel, 7, height));
                seen.add(x.agree(channel, height));
                seen.add(x.confirm(channel, height));
                for (int side = 0; side < 2; side++) {
                    seen.add(x.shut(channel, side, height));
                    seen.add(x.stepAt(channel, side, height));
                }
            }
            for (int message = 0; message < MESSAGES_THAT_GO_ON; message++) {
                seen.add(x.receive(message, height));
                seen.add(x.acknowledge(message, height));
                seen.add(x.timeout(message, height));
            }
        }
        return seen;
    }
}
