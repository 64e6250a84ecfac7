/** Promises 7 to 12, 17 and 18 at their bounds: one test for each sentence of the document that names one. */
public final class ChannelEdgesTest {
    private static final int[] NO_SIDES = {Integer.MIN_VALUE, -1, 2, 3, Integer.MAX_VALUE};
    private static final int[] NO_OFFERS = {Integer.MIN_VALUE, -1, 0, 8, 9, Integer.MAX_VALUE};
    /** Of one channel, whose number is 0. */
    private static final int[] NO_CHANNELS = {Integer.MIN_VALUE, -1, 1, 3, 4, Integer.MAX_VALUE};
    /** Never followed, whatever the HEIGHT is. */
    private static final int[] NO_HEIGHTS = {Integer.MIN_VALUE, -1, 0, 201, Integer.MAX_VALUE};

    /** The side that begins the channel, and the one that does not. */
    private final int first, other;

    private ChannelEdgesTest(int first) {
        this.first = first;
        this.other = 1 - first;
    }

    public static void main(String[] args) {
        for (int first = 0; first < 2; first++) {
            new ChannelEdgesTest(first).ofOneBeginner();
        }
        Checks.end();
    }

    private void ofOneBeginner() {
        initBounds();
        initRoom();
        initAtTheGreatestHeight();
        meetUnknownAndOutside();
        meetStateFrozenHeader();
        meetProofAndVersion();
        meetAtTheEdgesOfStates();
        agreeRefusals();
        agreeProofs();
        confirmRefusals();
        confirmProofs();
        closeRefusals();
        closeIsInTheNextState();
        shutRefusals();
        shutProofs();
        shutFromEachSide();
        endBounds();
        endOfEachStep();
        stepAtBounds();
        stepAtOfEachStep();
        stepAtIsForEver();
        allChannelsThatThereIsRoomFor();
    }

    private void no(String what, Scenes.Play play, Scenes.Call call, int due) {
        Scenes.refused("first side " + first + ", " + what, play, call, due);
    }

    private void is(String what, Scenes.Play play, Scenes.Call call, int due) {
        Scenes.answers("first side " + first + ", " + what, play, call, due);
    }

    // ---- the steps of channel 0, each with the height by which the next one is PROVED

    private static void nothing(BridgeClients x) {
    }

    private void begun(BridgeClients x) {
        x.init(first, false, 3);
    }

    /** INIT is in THE STATE of height 1. */
    private void begunAndShown(BridgeClients x) {
        begun(x);
        Checks.bring(x, first);
    }

    private void met(BridgeClients x) {
        begunAndShown(x);
        Checks.quiet("meet", x.meet(0, 7, 1), 2);
    }

    /** TRY is in THE STATE of height 1. */
    private void metAndShown(BridgeClients x) {
        met(x);
        Checks.bring(x, other);
    }

    private void agreed(BridgeClients x) {
        metAndShown(x);
        Checks.quiet("agree", x.agree(0, 1), 2);
    }

    /** OPEN is in THE STATE of height 2. */
    private void agreedAndShown(BridgeClients x) {
        agreed(x);
        Checks.bring(x, first);
    }

    private void open(BridgeClients x) {
        agreedAndShown(x);
        Checks.quiet("confirm", x.confirm(0, 2), 2);
    }

    private void closedAtFirst(BridgeClients x) {
        open(x);
        Checks.quiet("close", x.close(0, first), 1);
    }

    /** CLOSED is in THE STATE of height 3. */
    private void closedAndShown(BridgeClients x) {
        closedAtFirst(x);
        Checks.bring(x, first);
    }

    private void shutAtOther(BridgeClients x) {
        closedAndShown(x);
        Checks.quiet("shut", x.shut(0, other, 3), 1);
    }

    private static Scenes.Play ticks(int side, int times) {
        return x -> {
            for (int i = 0; i < times; i++) {
                x.tick(side);
            }
        };
    }

    /** The client of a side is FROZEN by a second MARK of height 1 of the other side. */
    private static Scenes.Play frozen(Scenes.Play play, int side) {
        return Scenes.then(play, x -> Checks.freeze(x, side, 1));
    }

    /** A further height of the other side is followed at a side by a false MARK. */
    private static Scenes.Play shownFalsely(Scenes.Play play, int side) {
        return Scenes.then(play, x -> x.follow(side, x.tick(1 - side), 1));
    }

    // ---- promise 7

    private void initBounds() {
        for (int none : NO_SIDES) {
            no("init at side " + none, ChannelEdgesTest::nothing, x -> x.init(none, false, 1), Checks.UNKNOWN);
            no("UNKNOWN before OUTSIDE, side " + none, ChannelEdgesTest::nothing, x -> x.init(none, true, 0),
                Checks.UNKNOWN);
        }
        for (int offer : NO_OFFERS) {
            no("init with OFFER " + offer, ChannelEdgesTest::nothing, x -> x.init(first, true, offer), Checks.OUTSIDE);
        }
        for (int offer = 1; offer <= 7; offer++) {
            int told = offer;
            is("init with OFFER " + offer, ChannelEdgesTest::nothing, x -> x.init(first, true, told), 0);
            is("it is the OFFER", x -> x.init(first, true, told), x -> x.end(0, first, 1), offer);
        }
    }

    private Scenes.Play channels(int many) {
        return x -> {
            for (int i = 0; i < many; i++) {
                Checks.quiet("number of the channel", x.init(i % 2 == 0 ? first : other, i % 2 == 0, 1 + i), i);
            }
        };
    }

    private void initRoom() {
        is("the last channel that there is room for", channels(3), x -> x.init(first, false, 1), 3);
        no("the next channel", channels(4), x -> x.init(first, false, 1), Checks.ROOM);
        no("the next channel at the other side", channels(4), x -> x.init(other, true, 7), Checks.ROOM);
        no("UNKNOWN before ROOM", channels(4), x -> x.init(2, false, 1), Checks.UNKNOWN);
        no("OUTSIDE before ROOM", channels(4), x -> x.init(first, false, 8), Checks.OUTSIDE);
        no("a CLOSED channel leaves no room", Scenes.then(this::shutAtOther, x -> {
            x.init(0, false, 1);
            x.init(0, false, 1);
            x.init(0, false, 1);
        }), x -> x.init(0, false, 1), Checks.ROOM);
        is("a FROZEN client is nothing to init", frozen(this::begunAndShown, other), x -> x.init(other, true, 1), 1);
    }

    private void initAtTheGreatestHeight() {
        Scenes.Play at199 = Scenes.then(Scenes.then(ticks(first, 199), this::begun), x -> Checks.bring(x, first));
        is("INIT at HEIGHT 199 is in THE STATE of 200", at199, x -> x.stepAt(0, first, 200), 1);
        is("it is PROVED by 200", at199, x -> x.meet(0, 7, 200), 2);
        Scenes.Play at200 = Scenes.then(Scenes.then(ticks(first, 199), x -> Checks.bring(x, first)), this::begun);
        is("INIT at HEIGHT 200 is in no STATE", at200, x -> x.stepAt(0, first, 200), 0);
        no("it is never PROVED", at200, x -> x.meet(0, 7, 200), Checks.PROOF);
    }

    // ---- promise 8

    private void meetUnknownAndOutside() {
        no("no channel yet", ChannelEdgesTest::nothing, x -> x.meet(0, 7, 1), Checks.UNKNOWN);
        for (int none : NO_CHANNELS) {
            no("meet of channel " + none, this::begunAndShown, x -> x.meet(none, 7, 1), Checks.UNKNOWN);
        }
        no("UNKNOWN before OUTSIDE", this::begunAndShown, x -> x.meet(1, 8, 1), Checks.UNKNOWN);
        no("UNKNOWN before FROZEN", frozen(this::begunAndShown, other), x -> x.meet(1, 7, 1), Checks.UNKNOWN);
        no("UNKNOWN before HEADER", this::begunAndShown, x -> x.meet(1, 7, 0), Checks.UNKNOWN);
        for (int offer : NO_OFFERS) {
            no("meet with OFFER " + offer, this::begunAndShown, x -> x.meet(0, offer, 1), Checks.OUTSIDE);
        }
        no("OUTSIDE before STATE", this::met, x -> x.meet(0, 8, 1), Checks.OUTSIDE);
        no("OUTSIDE before FROZEN", frozen(this::begunAndShown, other), x -> x.meet(0, 8, 1), Checks.OUTSIDE);
        no("OUTSIDE before HEADER", this::begun, x -> x.meet(0, 0, 1), Checks.OUTSIDE);
        no("OUTSIDE before PROOF", this::shownBeforeBegun, x -> x.meet(0, 0, 1), Checks.OUTSIDE);
        for (int offer = 1; offer <= 7; offer++) {
            int told = offer;
            int due = (offer & 2) != 0 ? 2 : (offer & 1) != 0 ? 1 : Checks.VERSION;
            is("meet with OFFER " + offer + " of 3", this::begunAndShown, x -> x.meet(0, told, 1), due);
        }
    }

    /** Height 1 is followed, but the channel was begun after it. */
    private void shownBeforeBegun(BridgeClients x) {
        Checks.bring(x, first);
        begun(x);
    }

    private void meetStateFrozenHeader() {
        no("TRY", this::met, x -> x.meet(0, 7, 1), Checks.STATE);
        no("OPEN", this::open, x -> x.meet(0, 7, 1), Checks.STATE);
        no("CLOSED", this::shutAtOther, x -> x.meet(0, 7, 1), Checks.STATE);
        no("STATE before FROZEN", frozen(this::met, other), x -> x.meet(0, 7, 1), Checks.STATE);
        no("STATE before HEADER", this::met, x -> x.meet(0, 7, 2), Checks.STATE);
        no("STATE before PROOF", this::open, x -> x.meet(0, 7, 2), Checks.STATE);
        no("STATE before VERSION", this::met, x -> x.meet(0, 4, 1), Checks.STATE);
        no("FROZEN", frozen(this::begunAndShown, other), x -> x.meet(0, 7, 1), Checks.FROZEN);
        no("FROZEN before HEADER", frozen(this::begunAndShown, other), x -> x.meet(0, 7, 2), Checks.FROZEN);
        no("FROZEN before PROOF", frozen(this::shownBeforeBegun, other), x -> x.meet(0, 7, 1), Checks.FROZEN);
        no("FROZEN before VERSION", frozen(this::begunAndShown, other), x -> x.meet(0, 4, 1), Checks.FROZEN);
        Scenes.Play firstFrozen = frozen(Scenes.then(this::begunAndShown, x -> Checks.bring(x, other)), first);
        is("the client of the first side may be FROZEN", firstFrozen, x -> x.meet(0, 7, 1), 2);
        no("it follows nothing", this::begun, x -> x.meet(0, 7, 1), Checks.HEADER);
        no("the height above", this::begunAndShown, x -> x.meet(0, 7, 2), Checks.HEADER);
        for (int height : NO_HEIGHTS) {
            no("meet by height " + height, this::begunAndShown, x -> x.meet(0, 7, height), Checks.HEADER);
        }
        no("by a false MARK", shownFalsely(this::begun, other), x -> x.meet(0, 7, 1), Checks.HEADER);
        no("HEADER before PROOF", Scenes.then(shownFalsely(ChannelEdgesTest::nothing, other), this::begun),
            x -> x.meet(0, 7, 1), Checks.HEADER);
        no("HEADER before VERSION", this::begun, x -> x.meet(0, 4, 1), Checks.HEADER);
        Scenes.Play renewed = Scenes.then(frozen(this::begunAndShown, other), x -> x.renew(other));
        no("renewed", renewed, x -> x.meet(0, 7, 1), Checks.HEADER);
        is("renewed, followed again", Scenes.then(renewed, x -> x.follow(other, 1, 0)), x -> x.meet(0, 7, 1), 2);
        no("its own side's height", Scenes.then(this::begun, x -> Checks.bring(x, other)), x -> x.meet(0, 7, 1),
            Checks.HEADER);
    }

    private void meetProofAndVersion() {
        no("begun after that height", this::shownBeforeBegun, x -> x.meet(0, 7, 1), Checks.PROOF);
        no("PROOF before VERSION", this::shownBeforeBegun, x -> x.meet(0, 4, 1), Checks.PROOF);
        no("another channel is INIT there", Scenes.then(this::begunAndShown, this::begun), x -> x.meet(1, 7, 1),
            Checks.PROOF);
        no("no VERSION that both offer", this::begunAndShown, x -> x.meet(0, 4, 1), Checks.VERSION);
        is("after that, a good OFFER", Scenes.then(this::begunAndShown, x -> x.meet(0, 4, 1)),
            x -> x.meet(0, 5, 1), 1);
        for (int mine = 1; mine <= 7; mine++) {
            for (int yours = 1; yours <= 7; yours++) {
                meetOffers(mine, yours);
            }
        }
    }

    private void meetOffers(int mine, int yours) {
        int due = Checks.VERSION;
        for (int version = 1; version <= 3; version++) {
            int bit = new int[] {0, 1, 2, 4}[version];
            due = (mine & bit) != 0 && (yours & bit) != 0 ? version : due;
        }
        Scenes.Play begun = x -> {
            x.init(first, false, mine);
            Checks.bring(x, first);
        };
        is("OFFERS " + mine + " and " + yours, begun, x -> x.meet(0, yours, 1), due);
    }

    private void meetAtTheEdgesOfStates() {
        Scenes.Play later = Scenes.then(Scenes.then(ticks(first, 4), this::begun), x -> {
            x.follow(other, 4, 0);
            Checks.bring(x, first);
            Checks.bring(x, first);
        });
        no("THE STATE of the HEIGHT at which it was begun", later, x -> x.meet(0, 7, 4), Checks.PROOF);
        is("the next one", later, x -> x.meet(0, 7, 5), 2);
        is("the one after it", later, x -> x.meet(0, 7, 6), 2);
    }

    // ---- promise 9

    private void agreeRefusals() {
        no("no channel yet", ChannelEdgesTest::nothing, x -> x.agree(0, 1), Checks.UNKNOWN);
        for (int none : NO_CHANNELS) {
            no("agree of channel " + none, this::metAndShown, x -> x.agree(none, 1), Checks.UNKNOWN);
        }
        no("UNKNOWN before FROZEN", frozen(this::metAndShown, first), x -> x.agree(1, 1), Checks.UNKNOWN);
        no("UNKNOWN before HEADER", this::metAndShown, x -> x.agree(1, 0), Checks.UNKNOWN);
        no("OPEN", this::agreed, x -> x.agree(0, 1), Checks.STATE);
        no("CLOSED", this::closedAtFirst, x -> x.agree(0, 1), Checks.STATE);
        no("STATE before FROZEN", frozen(this::agreed, first), x -> x.agree(0, 1), Checks.STATE);
        no("STATE before HEADER", this::agreed, x -> x.agree(0, 2), Checks.STATE);
        Scenes.Play openThere = Scenes.then(this::open, x -> Checks.bring(x, other));
        no("STATE before PROOF", openThere, x -> x.agree(0, 2), Checks.STATE);
        no("FROZEN", frozen(this::metAndShown, first), x -> x.agree(0, 1), Checks.FROZEN);
        no("FROZEN before HEADER", frozen(this::metAndShown, first), x -> x.agree(0, 0), Checks.FROZEN);
        Scenes.Play unmet = Scenes.then(this::begun, x -> Checks.bring(x, other));
        no("FROZEN before PROOF", frozen(unmet, first), x -> x.agree(0, 1), Checks.FROZEN);
        is("the other client may be FROZEN", frozen(this::metAndShown, other), x -> x.agree(0, 1), 2);
        no("it follows nothing", this::met, x -> x.agree(0, 1), Checks.HEADER);
        for (int height : NO_HEIGHTS) {
            no("agree by height " + height, this::metAndShown, x -> x.agree(0, height), Checks.HEADER);
        }
        no("the height above", this::metAndShown, x -> x.agree(0, 2), Checks.HEADER);
        no("by a false MARK", shownFalsely(this::met, first), x -> x.agree(0, 1), Checks.HEADER);
        no("HEADER before PROOF", shownFalsely(this::begun, first), x -> x.agree(0, 1), Checks.HEADER);
        no("PROOF: no END there", unmet, x -> x.agree(0, 1), Checks.PROOF);
    }

    private void agreeProofs() {
        Scenes.Play shownBefore = Scenes.then(this::begunAndShown, x -> {
            Checks.bring(x, other);
            x.meet(0, 7, 1);
        });
        no("TRY is not in THE STATE of its own HEIGHT", shownBefore, x -> x.agree(0, 1), Checks.PROOF);
        Scenes.Play shownAfter = Scenes.then(shownBefore, x -> Checks.bring(x, other));
        no("nor later in that one", shownAfter, x -> x.agree(0, 1), Checks.PROOF);
        is("it is in the next one", shownAfter, x -> x.agree(0, 2), 2);
        is("and in the one after it", Scenes.then(shownAfter, x -> Checks.bring(x, other)), x -> x.agree(0, 3), 2);
        is("it has the VERSION", this::agreed, x -> x.end(0, first, 2), 2);
        is("it is OPEN", this::agreed, x -> x.end(0, first, 0), 3);
        is("the other END is TRY yet", this::agreed, x -> x.end(0, other, 0), 2);
    }

    // ---- promise 10

    private void confirmRefusals() {
        no("no channel yet", ChannelEdgesTest::nothing, x -> x.confirm(0, 1), Checks.UNKNOWN);
        for (int none : NO_CHANNELS) {
            no("confirm of channel " + none, this::agreedAndShown, x -> x.confirm(none, 2), Checks.UNKNOWN);
        }
        no("UNKNOWN before FROZEN", frozen(this::agreedAndShown, other), x -> x.confirm(1, 2), Checks.UNKNOWN);
        no("UNKNOWN before HEADER", this::agreedAndShown, x -> x.confirm(1, 0), Checks.UNKNOWN);
        no("no STEP yet", this::begunAndShown, x -> x.confirm(0, 1), Checks.STATE);
        no("OPEN", this::open, x -> x.confirm(0, 2), Checks.STATE);
        no("CLOSED", this::shutAtOther, x -> x.confirm(0, 2), Checks.STATE);
        no("STATE before FROZEN", frozen(this::open, other), x -> x.confirm(0, 2), Checks.STATE);
        no("STATE before HEADER", this::open, x -> x.confirm(0, 3), Checks.STATE);
        no("STATE before PROOF", this::open, x -> x.confirm(0, 1), Checks.STATE);
        no("FROZEN", frozen(this::agreedAndShown, other), x -> x.confirm(0, 2), Checks.FROZEN);
        no("FROZEN before HEADER", frozen(this::agreedAndShown, other), x -> x.confirm(0, 3), Checks.FROZEN);
        no("FROZEN before PROOF", frozen(this::agreedAndShown, other), x -> x.confirm(0, 1), Checks.FROZEN);
        is("the client of the first side may be FROZEN", frozen(this::agreedAndShown, first), x -> x.confirm(0, 2), 2);
        Scenes.Play renewed = Scenes.then(frozen(this::agreedAndShown, other), x -> x.renew(other));
        no("it follows nothing", renewed, x -> x.confirm(0, 2), Checks.HEADER);
        for (int height : NO_HEIGHTS) {
            no("confirm by height " + height, this::agreedAndShown, x -> x.confirm(0, height), Checks.HEADER);
        }
        no("the height above", this::agreedAndShown, x -> x.confirm(0, 3), Checks.HEADER);
        no("by a false MARK", shownFalsely(this::agreed, other), x -> x.confirm(0, 2), Checks.HEADER);
        no("HEADER before PROOF", shownFalsely(this::met, other), x -> x.confirm(0, 2), Checks.HEADER);
        no("PROOF: INIT there", this::met, x -> x.confirm(0, 1), Checks.PROOF);
    }

    private void confirmProofs() {
        no("OPEN is not in THE STATE of its own HEIGHT", this::agreedAndShown, x -> x.confirm(0, 1), Checks.PROOF);
        is("it is in the next one", this::agreedAndShown, x -> x.confirm(0, 2), 2);
        is("and in the one after it", Scenes.then(this::agreedAndShown, x -> Checks.bring(x, first)),
            x -> x.confirm(0, 3), 2);
        Scenes.Play closed = Scenes.then(this::agreedAndShown, x -> {
            x.close(0, first);
            Checks.bring(x, first);
        });
        no("it is CLOSED in a later one", closed, x -> x.confirm(0, 3), Checks.PROOF);
        is("an older one has it for ever", closed, x -> x.confirm(0, 2), 2);
        Scenes.Play never = Scenes.then(this::agreed, x -> {
            x.close(0, first);
            Checks.bring(x, first);
        });
        no("OPEN and CLOSED at one HEIGHT is CLOSED", never, x -> x.confirm(0, 2), Checks.PROOF);
    }

    // ---- promise 11

    private void closeRefusals() {
        no("no channel yet", ChannelEdgesTest::nothing, x -> x.close(0, first), Checks.UNKNOWN);
        for (int none : NO_CHANNELS) {
            no("close of channel " + none, this::open, x -> x.close(none, first), Checks.UNKNOWN);
        }
        for (int none : NO_SIDES) {
            no("close at side " + none, this::open, x -> x.close(0, none), Checks.UNKNOWN);
            no("UNKNOWN before STATE, side " + none, this::begun, x -> x.close(0, none), Checks.UNKNOWN);
        }
        no("no STEP yet", this::begun, x -> x.close(0, other), Checks.STATE);
        no("INIT", this::begun, x -> x.close(0, first), Checks.STATE);
        no("TRY", this::met, x -> x.close(0, other), Checks.STATE);
        no("CLOSED", this::closedAtFirst, x -> x.close(0, first), Checks.STATE);
        no("shut", this::shutAtOther, x -> x.close(0, other), Checks.STATE);
    }

    private void closeIsInTheNextState() {
        is("OPEN at the first side, TRY at the other", this::agreed, x -> x.close(0, first), 1);
        is("OPEN at both", this::open, x -> x.close(0, other), 1);
        is("the other END is CLOSED, too", this::closedAtFirst, x -> x.close(0, other), 1);
        is("the other END stays OPEN", this::closedAtFirst, x -> x.end(0, other, 0), 3);
        is("a FROZEN client closes", frozen(this::open, first), x -> x.close(0, first), 1);
        is("OPEN in THE STATE of that HEIGHT", this::closedAndShown, x -> x.stepAt(0, first, 2), 3);
        is("CLOSED in the next one", this::closedAndShown, x -> x.stepAt(0, first, 3), 4);
        is("an OFFER and a VERSION stay", this::closedAtFirst, x -> x.end(0, first, 2), 2);
    }

    // ---- promise 12

    private void shutRefusals() {
        no("no channel yet", ChannelEdgesTest::nothing, x -> x.shut(0, other, 1), Checks.UNKNOWN);
        for (int none : NO_CHANNELS) {
            no("shut of channel " + none, this::closedAndShown, x -> x.shut(none, other, 3), Checks.UNKNOWN);
        }
        for (int none : NO_SIDES) {
            no("shut at side " + none, this::closedAndShown, x -> x.shut(0, none, 3), Checks.UNKNOWN);
            no("UNKNOWN before STATE, side " + none, this::begun, x -> x.shut(0, none, 3), Checks.UNKNOWN);
        }
        no("UNKNOWN before FROZEN", frozen(this::closedAndShown, other), x -> x.shut(1, other, 3), Checks.UNKNOWN);
        no("UNKNOWN before HEADER", this::closedAndShown, x -> x.shut(1, other, 0), Checks.UNKNOWN);
        no("no STEP yet", this::begunAndShown, x -> x.shut(0, other, 1), Checks.STATE);
        no("INIT", this::metAndShown, x -> x.shut(0, first, 1), Checks.STATE);
        no("TRY", this::agreedAndShown, x -> x.shut(0, other, 2), Checks.STATE);
        no("CLOSED", this::closedAndShown, x -> x.shut(0, first, 1), Checks.STATE);
        no("shut before", this::shutAtOther, x -> x.shut(0, other, 3), Checks.STATE);
        no("STATE before FROZEN", frozen(this::shutAtOther, other), x -> x.shut(0, other, 3), Checks.STATE);
        no("STATE before HEADER", this::shutAtOther, x -> x.shut(0, other, 4), Checks.STATE);
        no("STATE before PROOF", this::shutAtOther, x -> x.shut(0, other, 2), Checks.STATE);
        no("FROZEN", frozen(this::closedAndShown, other), x -> x.shut(0, other, 3), Checks.FROZEN);
        no("FROZEN before HEADER", frozen(this::closedAndShown, other), x -> x.shut(0, other, 4), Checks.FROZEN);
        no("FROZEN before PROOF", frozen(this::closedAndShown, other), x -> x.shut(0, other, 2), Checks.FROZEN);
        for (int height : NO_HEIGHTS) {
            no("shut by height " + height, this::closedAndShown, x -> x.shut(0, other, height), Checks.HEADER);
        }
        no("the height above", this::closedAndShown, x -> x.shut(0, other, 4), Checks.HEADER);
        no("by a false MARK", shownFalsely(this::closedAtFirst, other), x -> x.shut(0, other, 3), Checks.HEADER);
        no("HEADER before PROOF", shownFalsely(this::open, other), x -> x.shut(0, other, 3), Checks.HEADER);
        Scenes.Play renewed = Scenes.then(frozen(this::closedAndShown, other), x -> x.renew(other));
        no("it follows nothing", renewed, x -> x.shut(0, other, 3), Checks.HEADER);
    }

    private void shutProofs() {
        no("INIT there", this::open, x -> x.shut(0, other, 1), Checks.PROOF);
        no("OPEN there", this::open, x -> x.shut(0, other, 2), Checks.PROOF);
        no("CLOSED is not in THE STATE of its own HEIGHT", this::closedAndShown, x -> x.shut(0, other, 2), Checks.PROOF);
        is("it is in the next one", this::closedAndShown, x -> x.shut(0, other, 3), 1);
        is("and in the one after it", Scenes.then(this::closedAndShown, x -> Checks.bring(x, first)),
            x -> x.shut(0, other, 4), 1);
        is("it is CLOSED then", this::shutAtOther, x -> x.end(0, other, 0), 4);
        no("TRY there", this::agreed, x -> x.shut(0, first, 1), Checks.PROOF);
    }

    private void shutFromEachSide() {
        Scenes.Play closedAtOther = Scenes.then(this::open, x -> {
            x.close(0, other);
            Checks.bring(x, other);
        });
        is("shut at the side that began", closedAtOther, x -> x.shut(0, first, 2), 1);
        no("the END that is CLOSED itself", closedAtOther, x -> x.shut(0, other, 2), Checks.STATE);
        Scenes.Play byTimeout = x -> {
            Checks.open(x, first, true);
            x.send(0, first, 0, 0, first, 1, 2);
            x.timeout(0, Checks.bring(x, other));
            Checks.bring(x, first);
        };
        is("shut after a timeout", byTimeout, x -> x.shut(0, other, 3), 1);
    }

    // ---- promise 17

    private void endBounds() {
        no("no channel yet", ChannelEdgesTest::nothing, x -> x.end(0, first, 0), Checks.UNKNOWN);
        for (int none : NO_CHANNELS) {
            no("end of channel " + none, this::open, x -> x.end(none, first, 0), Checks.UNKNOWN);
            no("UNKNOWN before OUTSIDE, channel " + none, this::open, x -> x.end(none, first, 7), Checks.UNKNOWN);
        }
        for (int none : NO_SIDES) {
            no("end at side " + none, this::open, x -> x.end(0, none, 0), Checks.UNKNOWN);
            no("UNKNOWN before OUTSIDE, side " + none, this::open, x -> x.end(0, none, -1), Checks.UNKNOWN);
        }
        int[] outside = {Integer.MIN_VALUE, -1, 7, 8, Integer.MAX_VALUE};
        for (int what : outside) {
            no("end, what " + what, this::open, x -> x.end(0, other, what), Checks.OUTSIDE);
        }
    }

    private void endIs(String what, Scenes.Play play, int side, int... due) {
        for (int asked = 0; asked < due.length; asked++) {
            int number = asked;
            is(what + ", end at side " + side + ", what " + asked, play, x -> x.end(0, side, number), due[asked]);
        }
    }

    private void endOfEachStep() {
        endIs("INIT", this::begun, first, 1, 3, 0, 0, 0, 0, 0);
        endIs("no STEP yet", this::begun, other, 0, 0, 0, 0, 0, 0, 0);
        endIs("INIT and TRY", this::met, first, 1, 3, 0, 0, 0, 0, 0);
        endIs("TRY", this::met, other, 2, 7, 2, 0, 0, 0, 0);
        endIs("OPEN at the first side", this::agreed, first, 3, 3, 2, 0, 0, 0, 0);
        endIs("OPEN at both", this::open, other, 3, 7, 2, 0, 0, 0, 0);
        endIs("CLOSED", this::closedAtFirst, first, 4, 3, 2, 0, 0, 0, 0);
        endIs("shut", this::shutAtOther, other, 4, 7, 2, 0, 0, 0, 0);
        Scenes.Play ordered = x -> x.init(first, true, 7);
        endIs("ordered", ordered, first, 1, 7, 0, 0, 0, 0, 1);
        endIs("ordered, no STEP yet", ordered, other, 0, 0, 0, 0, 0, 0, 1);
        Scenes.Play sent = Scenes.then(this::open, x -> {
            x.send(0, first, 0, 7, first, 1000, 200);
            x.send(0, first, 1, 0, first, 1, 200);
            int height = Checks.bring(x, first);
            x.receive(0, height);
            x.receive(1, height);
        });
        endIs("sent", sent, first, 3, 3, 2, 1001, 2, 0, 0);
        endIs("received, a FAILED one, too", sent, other, 3, 7, 2, 0, 0, 2, 0);
    }

    // ---- promise 18

    private void stepAtBounds() {
        no("no channel yet", ChannelEdgesTest::nothing, x -> x.stepAt(0, first, 0), Checks.UNKNOWN);
        for (int none : NO_CHANNELS) {
            no("stepAt of channel " + none, this::open, x -> x.stepAt(none, first, 0), Checks.UNKNOWN);
            no("UNKNOWN before OUTSIDE, channel " + none, this::open, x -> x.stepAt(none, first, -1), Checks.UNKNOWN);
        }
        for (int none : NO_SIDES) {
            no("stepAt at side " + none, this::open, x -> x.stepAt(0, none, 0), Checks.UNKNOWN);
            no("UNKNOWN before OUTSIDE, side " + none, this::open, x -> x.stepAt(0, none, 201), Checks.UNKNOWN);
        }
        int[] outside = {Integer.MIN_VALUE, -1, 3, 200, 201, Integer.MAX_VALUE};
        for (int height : outside) {
            no("stepAt height " + height + " of HEIGHT 2", this::open, x -> x.stepAt(0, first, height), Checks.OUTSIDE);
        }
        no("height 1 of HEIGHT 0", this::begun, x -> x.stepAt(0, first, 1), Checks.OUTSIDE);
        no("HEIGHT of the other side is no bound", this::open, x -> x.stepAt(0, other, 2), Checks.OUTSIDE);
        no("what is followed is no bound", Scenes.then(this::begun, ticks(first, 1)), x -> x.stepAt(0, first, 2),
            Checks.OUTSIDE);
        Scenes.Play greatest = Scenes.then(this::begun, ticks(first, 200));
        is("height 200", greatest, x -> x.stepAt(0, first, 200), 1);
        no("height 201", greatest, x -> x.stepAt(0, first, 201), Checks.OUTSIDE);
    }

    private void stepsAre(Scenes.Play play, int side, int... due) {
        for (int height = 0; height < due.length; height++) {
            int asked = height;
            is("stepAt side " + side + ", height " + height, play, x -> x.stepAt(0, side, asked), due[height]);
        }
    }

    private void stepAtOfEachStep() {
        stepsAre(this::begun, first, 0);
        stepsAre(this::begunAndShown, first, 0, 1);
        stepsAre(this::met, other, 0);
        stepsAre(this::metAndShown, other, 0, 2);
        stepsAre(this::agreed, first, 0, 1);
        stepsAre(this::agreedAndShown, first, 0, 1, 3);
        stepsAre(this::closedAtFirst, first, 0, 1, 3);
        stepsAre(this::closedAndShown, first, 0, 1, 3, 4);
        stepsAre(Scenes.then(this::shutAtOther, ticks(other, 2)), other, 0, 2, 4, 4);
    }

    private void stepAtIsForEver() {
        Scenes.Play slow = x -> {
            x.tick(first);
            x.init(first, false, 1);
            ticks(first, 2).on(x);
            x.follow(other, 2, 0);
            x.meet(0, 1, 2);
            Checks.bring(x, other);
            x.agree(0, 1);
            ticks(first, 2).on(x);
            x.close(0, first);
            ticks(first, 2).on(x);
        };
        stepsAre(slow, first, 0, 0, 1, 1, 3, 3, 4, 4);
    }

    // ---- the last channel that there is room for

    private void allChannelsThatThereIsRoomFor() {
        Scenes.Play full = x -> {
            for (int channel = 0; channel < 4; channel++) {
                Checks.quiet("number", Checks.open(x, first, channel % 2 == 1), channel);
            }
        };
        for (int channel = 0; channel < 4; channel++) {
            int asked = channel;
            is("OPEN, channel " + channel, full, x -> x.end(asked, other, 0), 3);
            is("ordered, channel " + channel, full, x -> x.end(asked, other, 6), channel % 2);
            is("close, channel " + channel, full, x -> x.close(asked, other), 1);
            is("send, channel " + channel, full, x -> x.send(asked, other, 0, 0, other, 1, 200), 0);
        }
        no("meet of channel 4", full, x -> x.meet(4, 7, 1), Checks.UNKNOWN);
        no("agree of channel 4", full, x -> x.agree(4, 1), Checks.UNKNOWN);
        no("confirm of channel 4", full, x -> x.confirm(4, 1), Checks.UNKNOWN);
        no("close of channel 4", full, x -> x.close(4, 0), Checks.UNKNOWN);
        no("shut of channel 4", full, x -> x.shut(4, 0, 1), Checks.UNKNOWN);
        no("end of channel 4", full, x -> x.end(4, 0, 0), Checks.UNKNOWN);
        no("stepAt of channel 4", full, x -> x.stepAt(4, 0, 0), Checks.UNKNOWN);
        no("send of channel 4", full, x -> x.send(4, 0, 0, 0, 0, 1, 200), Checks.UNKNOWN);
        no("vouchers of channel 4", full, x -> x.vouchers(4, 0, 0), Checks.UNKNOWN);
    }
}
