/** Promises 1 to 6, 23 and 24 at their bounds: one test for each sentence of the document that names one. */
public final class LedgerEdgesTest {
    private static final int[] NO_SIDES = {Integer.MIN_VALUE, -1, 2, 3, Integer.MAX_VALUE};

    /** The side whose HEIGHT grows, and the side whose client follows it. */
    private final int grown, side;

    private LedgerEdgesTest(int grown) {
        this.grown = grown;
        this.side = 1 - grown;
    }

    public static void main(String[] args) {
        newObjectHasNoChannelAndNoMessage();
        newObjectHasNothingOfAnotherOne();
        countBounds();
        countAtTheGreatestNumbers();
        clearOfNothing();
        clearOfAllThatThereIsRoomFor();
        clearOfOneThatWasRefused();
        clearOfFrozenClients();
        clearLeavesNoOldMessage();
        clearLeavesNoOldEnd();
        theLastCallThatIsPromised();
        for (int grown = 0; grown < 2; grown++) {
            new LedgerEdgesTest(grown).ofOneSide();
        }
        Checks.end();
    }

    private void ofOneSide() {
        tickOfNoSide();
        tickFromHeightNothingToTheGreatest();
        tickRefusals();
        followMarks();
        followHeights();
        followAtTheGreatestHeight();
        followEveryHeight();
        followSecondMarks();
        followRefusals();
        followOfFrozenKeepsTheFirstMark();
        renewRefusals();
        renewLeavesNothing();
        renewAnswers();
        renewChangesTheClientAlone();
        clientBounds();
        clientAnswers();
        followsBounds();
        followsAnswers();
    }

    private void no(String what, Scenes.Play play, Scenes.Call call, int due) {
        Scenes.refused("grown side " + grown + ", " + what, play, call, due);
    }

    private void is(String what, Scenes.Play play, Scenes.Call call, int due) {
        Scenes.answers("grown side " + grown + ", " + what, play, call, due);
    }

    private static void nothing(BridgeClients x) {
    }

    private static Scenes.Play ticks(int side, int times) {
        return x -> {
            for (int i = 0; i < times; i++) {
                x.tick(side);
            }
        };
    }

    /** HEIGHT 3, of which 2 is followed by the right MARK. */
    private void followsOne(BridgeClients x) {
        ticks(grown, 3).on(x);
        x.follow(side, 2, 0);
    }

    /** HEIGHT 3: 2 is followed by the right MARK, 1 by the false one 4, which 5 was told of, too. */
    private void frozen(BridgeClients x) {
        followsOne(x);
        x.follow(side, 1, 4);
        x.follow(side, 1, 5);
    }

    // ---- promise 1

    private static void newObjectHasNoChannelAndNoMessage() {
        Scenes.Call[] calls = {x -> x.meet(0, 1, 1), x -> x.agree(0, 1), x -> x.confirm(0, 1), x -> x.close(0, 0),
            x -> x.close(0, 1), x -> x.shut(0, 0, 1), x -> x.shut(0, 1, 1), x -> x.send(0, 0, 0, 0, 0, 1, 1),
            x -> x.send(0, 1, 0, 0, 1, 1, 1), x -> x.receive(0, 1), x -> x.acknowledge(0, 1), x -> x.timeout(0, 1),
            x -> x.end(0, 0, 0), x -> x.end(0, 1, 0), x -> x.stepAt(0, 0, 0), x -> x.stepAt(0, 1, 0),
            x -> x.message(0, 0), x -> x.vouchers(0, 0, 0), x -> x.vouchers(0, 1, 0)};
        for (int i = 0; i < calls.length; i++) {
            Scenes.refused("a new object, call " + i, LedgerEdgesTest::nothing, calls[i], Checks.UNKNOWN);
        }
        for (int what = 0; what < 5; what++) {
            int asked = what;
            Scenes.answers("a new object, count " + what, LedgerEdgesTest::nothing, x -> x.count(asked), 0);
        }
    }

    private static void newObjectHasNothingOfAnotherOne() {
        BridgeClients used = new BridgeClients();
        Checks.open(used, 0, true);
        used.send(0, 0, 0, 0, 0, 1000, 9);
        Checks.freeze(used, 0, 1);
        Scenes.same("a second object", LedgerEdgesTest::nothing, x -> used.tick(0));
    }

    // ---- promise 2

    private void tickOfNoSide() {
        for (int none : NO_SIDES) {
            no("tick of side " + none, LedgerEdgesTest::nothing, x -> x.tick(none), Checks.UNKNOWN);
        }
    }

    private void tickFromHeightNothingToTheGreatest() {
        is("HEIGHT 0 at first", LedgerEdgesTest::nothing, x -> x.count(grown), 0);
        is("the first tick", LedgerEdgesTest::nothing, x -> x.tick(grown), 1);
        is("HEIGHT of the other side", ticks(grown, 1), x -> x.count(side), 0);
        is("the tick to 199", ticks(grown, 198), x -> x.tick(grown), 199);
        is("the tick to 200", ticks(grown, 199), x -> x.tick(grown), 200);
        is("HEIGHT 200", ticks(grown, 200), x -> x.count(grown), 200);
    }

    private void tickRefusals() {
        no("tick at HEIGHT 200", ticks(grown, 200), x -> x.tick(grown), Checks.ROOM);
        is("the other side at HEIGHT 200", ticks(grown, 200), x -> x.tick(side), 1);
        Scenes.Play full = Scenes.then(ticks(grown, 200), ticks(side, 200));
        no("both sides at HEIGHT 200", full, x -> x.tick(side), Checks.ROOM);
        no("UNKNOWN before ROOM", full, x -> x.tick(2), Checks.UNKNOWN);
    }

    // ---- promise 3

    private void followMarks() {
        int[] outside = {Integer.MIN_VALUE, -1, 10, 11, Integer.MAX_VALUE};
        for (int mark : outside) {
            no("follow by MARK " + mark, ticks(grown, 3), x -> x.follow(side, 2, mark), Checks.OUTSIDE);
        }
        for (int mark = 0; mark < 10; mark++) {
            int told = mark;
            is("follow by MARK " + mark, ticks(grown, 3), x -> x.follow(side, 2, told), 1);
            is("followed by MARK " + mark, Scenes.then(ticks(grown, 3), x -> x.follow(side, 2, told)),
                x -> x.follows(side, 2), mark == 0 ? 1 : 2);
        }
    }

    private void followHeights() {
        no("height 1 of HEIGHT 0", LedgerEdgesTest::nothing, x -> x.follow(side, 1, 0), Checks.OUTSIDE);
        no("height 0 of HEIGHT 0", LedgerEdgesTest::nothing, x -> x.follow(side, 0, 0), Checks.OUTSIDE);
        int[] outside = {Integer.MIN_VALUE, -1, 0, 4, 200, 201, Integer.MAX_VALUE};
        for (int height : outside) {
            no("height " + height + " of HEIGHT 3", ticks(grown, 3), x -> x.follow(side, height, 0), Checks.OUTSIDE);
        }
        is("the least height", ticks(grown, 3), x -> x.follow(side, 1, 0), 1);
        is("HEIGHT itself", ticks(grown, 3), x -> x.follow(side, 3, 0), 1);
        no("HEIGHT of its own side is no bound", ticks(side, 3), x -> x.follow(side, 1, 0), Checks.OUTSIDE);
        is("a height below the greatest", this::followsOne, x -> x.follow(side, 1, 0), 1);
    }

    private void followAtTheGreatestHeight() {
        is("height 200", ticks(grown, 200), x -> x.follow(side, 200, 0), 1);
        no("height 200 of HEIGHT 199", ticks(grown, 199), x -> x.follow(side, 200, 0), Checks.OUTSIDE);
        no("height 201", ticks(grown, 200), x -> x.follow(side, 201, 0), Checks.OUTSIDE);
    }

    private void everyHeight(BridgeClients x) {
        ticks(grown, 200).on(x);
        for (int height = 200; height >= 1; height--) {
            x.follow(side, height, height % 10);
        }
    }

    private void followEveryHeight() {
        is("200 heights are followed", this::everyHeight, x -> x.client(side, 2), 200);
        no("the last one again", this::everyHeight, x -> x.follow(side, 1, 1), Checks.STATE);
        is("the last one, by another MARK", this::everyHeight, x -> x.follow(side, 1, 2), 2);
    }

    private void followSecondMarks() {
        for (int one = 0; one < 10; one++) {
            for (int two = 0; two < 10; two++) {
                int first = one;
                int second = two;
                Scenes.Play told = Scenes.then(ticks(grown, 3), x -> x.follow(side, 2, first));
                is("MARK " + one + ", then " + two, told, x -> x.follow(side, 2, second),
                    one == two ? Checks.STATE : 2);
            }
        }
        no("the right MARK again", this::followsOne, x -> x.follow(side, 2, 0), Checks.STATE);
        is("it is FROZEN", this::frozen, x -> x.client(side, 0), 1);
        is("the other client is not", this::frozen, x -> x.client(grown, 0), 0);
        is("the other client follows", Scenes.then(this::frozen, ticks(side, 1)), x -> x.follow(grown, 1, 0), 1);
    }

    private void followRefusals() {
        for (int none : NO_SIDES) {
            no("follow at side " + none, this::followsOne, x -> x.follow(none, 1, 0), Checks.UNKNOWN);
        }
        no("UNKNOWN before OUTSIDE", this::followsOne, x -> x.follow(2, 0, 10), Checks.UNKNOWN);
        no("UNKNOWN before FROZEN", this::frozen, x -> x.follow(-1, 3, 0), Checks.UNKNOWN);
        no("OUTSIDE, the MARK of a followed height", this::followsOne, x -> x.follow(side, 2, 10), Checks.OUTSIDE);
        no("OUTSIDE before FROZEN, the height", this::frozen, x -> x.follow(side, 4, 0), Checks.OUTSIDE);
        no("OUTSIDE before FROZEN, the MARK", this::frozen, x -> x.follow(side, 3, 10), Checks.OUTSIDE);
        no("STATE before FROZEN, right", this::frozen, x -> x.follow(side, 2, 0), Checks.STATE);
        no("STATE before FROZEN, false", this::frozen, x -> x.follow(side, 1, 4), Checks.STATE);
        no("FROZEN, a new height", this::frozen, x -> x.follow(side, 3, 0), Checks.FROZEN);
        no("FROZEN, the MARK that froze it", this::frozen, x -> x.follow(side, 1, 5), Checks.FROZEN);
        no("FROZEN, a third MARK", this::frozen, x -> x.follow(side, 1, 0), Checks.FROZEN);
        no("FROZEN, a second MARK of another height", this::frozen, x -> x.follow(side, 2, 1), Checks.FROZEN);
    }

    private void followOfFrozenKeepsTheFirstMark() {
        Scenes.Play toldMore = Scenes.then(this::frozen, x -> x.follow(side, 1, 6));
        no("the first MARK is followed yet", toldMore, x -> x.follow(side, 1, 4), Checks.STATE);
        no("the second one is not", toldMore, x -> x.follow(side, 1, 5), Checks.FROZEN);
        no("the third one is not", toldMore, x -> x.follow(side, 1, 6), Checks.FROZEN);
    }

    // ---- promise 4

    private void renewRefusals() {
        for (int none : NO_SIDES) {
            no("renew of side " + none, this::frozen, x -> x.renew(none), Checks.UNKNOWN);
        }
        no("it follows nothing", LedgerEdgesTest::nothing, x -> x.renew(side), Checks.STATE);
        no("it follows one, not FROZEN", this::followsOne, x -> x.renew(side), Checks.STATE);
        no("the other one is FROZEN", this::frozen, x -> x.renew(grown), Checks.STATE);
        no("renewed before", Scenes.then(this::frozen, x -> x.renew(side)), x -> x.renew(side), Checks.STATE);
    }

    private void renewLeavesNothing() {
        Scenes.Play renewed = Scenes.then(this::frozen, x -> x.renew(side));
        Scenes.same("grown side " + grown + ", renewed", ticks(grown, 3), renewed);
        is("the MARK that it followed is new", renewed, x -> x.follow(side, 1, 4), 1);
        is("the MARK that froze it is new", renewed, x -> x.follow(side, 1, 5), 1);
        Scenes.Play again = Scenes.then(renewed, this::frozenOnceMore);
        is("FROZEN a second time", again, x -> x.client(side, 0), 1);
        is("renewed a second time", again, x -> x.renew(side), 1);
    }

    private void frozenOnceMore(BridgeClients x) {
        x.follow(side, 3, 0);
        x.follow(side, 3, 1);
    }

    private void renewAnswers() {
        is("of two heights, one by a false MARK", this::frozen, x -> x.renew(side), 2);
        Scenes.Play one = Scenes.then(this::followsOne, x -> x.follow(side, 2, 1));
        is("of the one that froze it", one, x -> x.renew(side), 1);
        Scenes.Play all = Scenes.then(this::everyHeight, x -> x.follow(side, 200, 1));
        is("of all heights", all, x -> x.renew(side), 200);
    }

    private void renewChangesTheClientAlone() {
        Scenes.Play sent = x -> {
            int channel = Checks.open(x, grown, true);
            x.send(channel, grown, 0, 0, grown, 7, 90);
            x.receive(0, Checks.bring(x, grown));
            Checks.freeze(x, side, 1);
            x.renew(side);
        };
        is("what is OPEN stays so", sent, x -> x.end(0, side, 0), 3);
        is("what is received stays so", sent, x -> x.message(0, 9), 1);
        is("VOUCHERS stay", sent, x -> x.vouchers(0, side, 0), 7);
        is("HEIGHT stays", sent, x -> x.count(grown), 3);
        is("the other client follows yet", sent, x -> x.client(grown, 2), 1);
    }

    // ---- promise 5

    private void clientBounds() {
        int[] outside = {Integer.MIN_VALUE, -1, 3, 4, Integer.MAX_VALUE};
        for (int what : outside) {
            no("client, what " + what, this::frozen, x -> x.client(side, what), Checks.OUTSIDE);
        }
        for (int none : NO_SIDES) {
            no("client of side " + none, this::frozen, x -> x.client(none, 0), Checks.UNKNOWN);
            no("UNKNOWN before OUTSIDE, side " + none, this::frozen, x -> x.client(none, 3), Checks.UNKNOWN);
        }
    }

    private void clientIs(String what, Scenes.Play play, int frozen, int greatest, int howMany) {
        is(what + ": FROZEN", play, x -> x.client(side, 0), frozen);
        is(what + ": the greatest", play, x -> x.client(side, 1), greatest);
        is(what + ": how many", play, x -> x.client(side, 2), howMany);
    }

    private void clientAnswers() {
        clientIs("nothing to follow", LedgerEdgesTest::nothing, 0, 0, 0);
        clientIs("it follows nothing", ticks(grown, 3), 0, 0, 0);
        clientIs("it follows one", this::followsOne, 0, 2, 1);
        clientIs("a lower one, too", Scenes.then(this::followsOne, x -> x.follow(side, 1, 3)), 0, 2, 2);
        clientIs("a higher one by a false MARK", Scenes.then(this::followsOne, x -> x.follow(side, 3, 9)), 0, 3, 2);
        clientIs("one is FROZEN", this::frozen, 1, 2, 2);
        clientIs("one is renewed", Scenes.then(this::frozen, x -> x.renew(side)), 0, 0, 0);
        clientIs("all heights", this::everyHeight, 0, 200, 200);
        clientIs("height 200 alone", Scenes.then(ticks(grown, 200), x -> x.follow(side, 200, 0)), 0, 200, 1);
    }

    // ---- promise 6

    private void followsBounds() {
        int[] outside = {Integer.MIN_VALUE, -1, 0, 201, 202, Integer.MAX_VALUE};
        for (int height : outside) {
            no("follows height " + height, this::frozen, x -> x.follows(side, height), Checks.OUTSIDE);
        }
        for (int none : NO_SIDES) {
            no("follows at side " + none, this::frozen, x -> x.follows(none, 1), Checks.UNKNOWN);
            no("UNKNOWN before OUTSIDE, side " + none, this::frozen, x -> x.follows(none, 0), Checks.UNKNOWN);
        }
    }

    private void followsAnswers() {
        is("height 1 of HEIGHT 0", LedgerEdgesTest::nothing, x -> x.follows(side, 1), 0);
        is("height 200 of HEIGHT 0", LedgerEdgesTest::nothing, x -> x.follows(side, 200), 0);
        is("by the right MARK", this::followsOne, x -> x.follows(side, 2), 1);
        is("the next lower one", this::followsOne, x -> x.follows(side, 1), 0);
        is("the next higher one", this::followsOne, x -> x.follows(side, 3), 0);
        is("at the other side", this::followsOne, x -> x.follows(grown, 2), 0);
        is("FROZEN, by the right MARK", this::frozen, x -> x.follows(side, 2), 1);
        is("FROZEN, by a false MARK", this::frozen, x -> x.follows(side, 1), 2);
        is("FROZEN, not followed", this::frozen, x -> x.follows(side, 3), 0);
        is("renewed", Scenes.then(this::frozen, x -> x.renew(side)), x -> x.follows(side, 2), 0);
        is("the least of all", this::everyHeight, x -> x.follows(side, 1), 2);
        is("the greatest of all", this::everyHeight, x -> x.follows(side, 200), 1);
    }

    // ---- promise 23

    /** 4 channels, 60 messages, of which the first was received and acknowledged, both HEIGHTS above 0. */
    private static void full(BridgeClients x) {
        Checks.open(x, 0, false);
        for (int channel = 1; channel < 4; channel++) {
            x.init(channel % 2, channel % 2 == 0, channel);
        }
        for (int message = 0; message < 60; message++) {
            x.send(0, message % 2, message % 4, message % 8, message % 2, 1 + message, 200);
        }
        x.receive(0, Checks.bring(x, 0));
        x.acknowledge(0, Checks.bring(x, 1));
    }

    private static void countBounds() {
        int[] outside = {Integer.MIN_VALUE, -1, 5, 6, Integer.MAX_VALUE};
        for (int what : outside) {
            Scenes.refused("count " + what, LedgerEdgesTest::full, x -> x.count(what), Checks.OUTSIDE);
        }
    }

    private static void countAtTheGreatestNumbers() {
        int[] due = {3, 2, 4, 60, 59};
        for (int what = 0; what < due.length; what++) {
            int asked = what;
            Scenes.answers("count " + what, LedgerEdgesTest::full, x -> x.count(asked), due[what]);
        }
        Scenes.answers("HEIGHT 0 is 200", ticks(0, 200), x -> x.count(0), 200);
        Scenes.answers("HEIGHT 1 is not", ticks(0, 200), x -> x.count(1), 0);
        Scenes.answers("HEIGHT 1 is 200", ticks(1, 200), x -> x.count(1), 200);
    }

    // ---- promise 24

    private static void clearOfNothing() {
        Scenes.answers("clear of a new object", LedgerEdgesTest::nothing, BridgeClients::clear, 0);
        Scenes.same("a new object, cleared", LedgerEdgesTest::nothing, BridgeClients::clear);
        Scenes.answers("clear with a channel, without messages", x -> Checks.open(x, 0, false),
            BridgeClients::clear, 0);
    }

    private static void clearOfAllThatThereIsRoomFor() {
        Scenes.answers("clear of 60 messages", LedgerEdgesTest::full, BridgeClients::clear, 60);
        Scenes.answers("clear a second time", Scenes.then(LedgerEdgesTest::full, BridgeClients::clear),
            BridgeClients::clear, 0);
        Scenes.same("all is cleared", LedgerEdgesTest::nothing, Scenes.then(LedgerEdgesTest::full, BridgeClients::clear));
        Scenes.same("HEIGHT 200 is cleared", LedgerEdgesTest::nothing, Scenes.then(ticks(1, 200), BridgeClients::clear));
        Scenes.Play cleared = Scenes.then(LedgerEdgesTest::full, BridgeClients::clear);
        Scenes.same("the same once more", LedgerEdgesTest::full, Scenes.then(cleared, LedgerEdgesTest::full));
    }

    private static void clearOfOneThatWasRefused() {
        Scenes.Play sent = x -> {
            Checks.open(x, 1, true);
            x.send(0, 0, 0, 0, 0, 1, 9);
        };
        Scenes.Play refused = Scenes.then(sent, x -> x.send(0, 0, 0, 0, 0, 1000, 9));
        Scenes.answers("a refused send is no message", refused, BridgeClients::clear, 1);
    }

    private static void clearOfFrozenClients() {
        Scenes.Play frozen = x -> {
            Checks.open(x, 0, true);
            Checks.freeze(x, 0, 1);
            Checks.freeze(x, 1, 2);
            x.clear();
        };
        Scenes.same("FROZEN clients, cleared", LedgerEdgesTest::nothing, frozen);
        Scenes.answers("they cannot be renewed", frozen, x -> x.renew(0), Checks.STATE);
        Scenes.Play ticked = Scenes.then(frozen, ticks(0, 1));
        Scenes.answers("a MARK that was followed is new", ticked, x -> x.follow(1, 1, 0), 1);
        Scenes.answers("another MARK, too", ticked, x -> x.follow(1, 1, 9), 1);
    }

    /** The channel is begun at the other side then, with another OFFER and another order. */
    private static void clearLeavesNoOldEnd() {
        for (int i = 0; i < 2; i++) {
            int first = i;
            Scenes.Play used = x -> {
                Checks.open(x, first, true);
                x.send(0, 0, 0, 3, 0, 5, 200);
                x.send(0, 1, 3, 0, 1, 6, 200);
                x.receive(0, Checks.bring(x, 0));
                x.receive(1, Checks.bring(x, 1));
                x.close(0, first);
                x.clear();
            };
            Scenes.Play begun = x -> x.init(1 - first, false, 2);
            Scenes.Play met = Scenes.then(begun, x -> x.meet(0, 3, Checks.bring(x, 1 - first)));
            Scenes.same("begun at " + (1 - first), begun, Scenes.then(used, begun));
            Scenes.same("met at " + first, met, Scenes.then(used, met));
        }
    }

    /** A message that came back, one that FAILED, and one that was received well, each of them in each place. */
    private static void clearLeavesNoOldMessage() {
        Scenes.Play sent = x -> {
            Checks.open(x, 0, true);
            for (int i = 0; i < 3; i++) {
                x.send(0, 0, i, 2 + i, 0, 10 + i, 3);
            }
        };
        Scenes.Play ended = Scenes.then(sent, x -> {
            int height = Checks.bring(x, 0);
            for (int i = 0; i < 3; i++) {
                x.receive(i, height);
            }
            height = Checks.bring(x, 1);
            x.acknowledge(0, height);
            x.acknowledge(1, height);
            x.close(0, 0);
            x.close(0, 1);
            x.clear();
        });
        Scenes.Play timedOut = Scenes.then(sent, x -> {
            Checks.bring(x, 1);
            int height = Checks.bring(x, 1);
            for (int i = 0; i < 3; i++) {
                x.timeout(i, height);
            }
            x.clear();
        });
        Scenes.same("after received ones", sent, Scenes.then(ended, sent));
        Scenes.same("after timed out ones", sent, Scenes.then(timedOut, sent));
    }

    // ---- the 512th call

    /** All that there is room for is there at once, after 488 calls. */
    private static void everyRoomIsFull(BridgeClients x) {
        for (int channel = 0; channel < 4; channel++) {
            Checks.quiet("number", Checks.open(x, 0, channel % 2 == 0), channel);
        }
        for (int message = 0; message < 60; message++) {
            Checks.quiet("number", x.send(message % 4, message % 2, message % 4, 7, message % 2, 50, 200), message);
        }
        ticks(0, 192).on(x);
        ticks(1, 196).on(x);
    }

    private static void theLastCallThatIsPromised() {
        Scenes.Play refusedOften = Scenes.then(LedgerEdgesTest::everyRoomIsFull, x -> {
            for (int i = 0; i < 4; i++) {
                Checks.due("the last rooms, tick", x.tick(i % 2), Checks.ROOM);
                Checks.due("the last rooms, init", x.init(i % 2, true, 7), Checks.ROOM);
                Checks.due("the last rooms, send", x.send(i, i % 2, 0, 0, i % 2, 1, 200), Checks.ROOM);
                Checks.due("the last rooms, follow", x.follow(i % 2, 199, i / 2), i < 2 ? 1 : 2);
                Checks.due("the last rooms, message", x.message(59 - i, 8), 1);
            }
        });
        Scenes.Play asked = Scenes.then(refusedOften, x -> {
            Checks.due("call 509", x.count(0), 200);
            Checks.due("call 510", x.count(1), 200);
            Checks.due("call 511", x.count(4), 60);
        });
        Scenes.answers("call 512, count", asked, x -> x.count(3), 60);
        Scenes.answers("call 512, stepAt", asked, x -> x.stepAt(3, 0, 200), 3);
        Scenes.answers("call 512, sum", asked, x -> x.sum(0, 0), 2500);
        Scenes.answers("call 512, renew", asked, x -> x.renew(1), 9);
        Scenes.answers("call 512, close", asked, x -> x.close(3, 1), 1);
        Scenes.answers("call 512, clear", asked, BridgeClients::clear, 60);
    }
}
