/** Promises 15 and 16: time, bound. */
public final class ServedTimeTest {
    public static void main(String[] args) {
        timeBeforeTheFirstUpdate();
        boundBeforeTheFirstUpdate();
        firstTargetIsTakenAtOnce();
        slewsUpByASixteenth();
        slewsDownByASixteenth();
        lastStepIsReachedNotPassed();
        turnsFromWhereItStood();
        targetIsNotBelowTheHull();
        targetIsNotAboveTheHull();
        errorIsTheGreaterOne();
        boundGrowsFromTheUpdate();
        boundHasAllThree();
        failedUpdateDoesNotStopTheSlew();
        Due.end();
    }

    private static void serves(String when, MajorityClock clock, long correction, long bound) {
        Due.is("time() " + when, clock.time(), clock.hardware() + correction);
        Due.is("bound() " + when, clock.bound(), bound);
    }

    private static MajorityClock oneServer(int drift) {
        MajorityClock clock = new MajorityClock(1, drift, Rig.SELF);
        clock.tell(0, 1, 1, 0);
        clock.advance(10000);
        return clock;
    }

    /** A clock without drift that served the correction 0 and has just been given another target. */
    private static MajorityClock turnedTo(long target) {
        MajorityClock clock = oneServer(0);
        Rig.sample(clock, 0, 0, 0, 0);
        clock.update();
        Rig.sample(clock, 0, target, target, 0);
        clock.update();
        return clock;
    }

    private static void timeBeforeTheFirstUpdate() {
        Due.by("The served time; NOTHING when no update found survivors yet.");
        MajorityClock clock = Rig.withIntervals(Rig.row(0, 50), Rig.row(9, 60));
        Due.is("time() before an update", clock.time(), Rig.NOTHING);
        Due.is("update()", clock.update(), -1);
        Due.is("time() after an update without a majority", clock.time(), Rig.NOTHING);
        makeUnusable(clock);
        Due.is("update()", clock.update(), 0);
        Due.is("time() after an update without usable servers", clock.time(), Rig.NOTHING);
        clock.tell(1, 1, 1, 0);
        Due.is("update()", clock.update(), 1);
        Due.is("time() after the first that found survivors", clock.time(), 10055);
    }

    private static void boundBeforeTheFirstUpdate() {
        Due.by("The bound; NOTHING when no update found survivors yet.");
        MajorityClock clock = Rig.withIntervals(Rig.row(0, 50), Rig.row(9, 60));
        Due.is("bound() before an update", clock.bound(), Rig.NOTHING);
        Due.is("update()", clock.update(), -1);
        Due.is("bound() after an update without a majority", clock.bound(), Rig.NOTHING);
        makeUnusable(clock);
        Due.is("update()", clock.update(), 0);
        Due.is("bound() after an update without usable servers", clock.bound(), Rig.NOTHING);
        clock.tell(1, 1, 1, 0);
        Due.is("update()", clock.update(), 1);
        Due.is("bound() after the first that found survivors", clock.bound(), 5);
    }

    private static void makeUnusable(MajorityClock clock) {
        clock.tell(0, 16, 1, 0);
        clock.tell(1, 16, 1, 0);
    }

    private static void firstTargetIsTakenAtOnce() {
        Due.by("THE SERVED TIME is H + C, from the first update that found survivors on. C is the target of that update at first.");
        MajorityClock clock = oneServer(0);
        Rig.sample(clock, 0, 900000, 900007, 10);
        clock.update();
        serves("at once", clock, 900003, 4);
        clock.advance(1);
        serves("a tick later", clock, 900003, 4);
        clock.advance(1000000);
        serves("much later", clock, 900003, 4);
        MajorityClock below = oneServer(0);
        Rig.sample(below, 0, -10000, -10000, 0);
        below.update();
        Due.is("a served time of 0", below.time(), 0);
        MajorityClock belowZero = oneServer(0);
        belowZero.tell(0, 1, 1, 1000000);
        belowZero.ask(0);
        belowZero.advance(1000);
        Rig.sealedReply(belowZero, 0, 10000, 0, 0);
        belowZero.update();
        serves("below the hardware time", belowZero, -10500, 1000500);
        Due.is("a served time above 0", belowZero.time(), 500);
    }

    private static void slewsUpByASixteenth() {
        Due.by("with n = (H - u) / 16 .. otherwise c + n or c - n, whichever is nearer to t");
        MajorityClock clock = turnedTo(3);
        serves("at the update", clock, 0, 3);
        clock.advance(15);
        serves("after 15 ticks", clock, 0, 3);
        clock.advance(1);
        serves("after 16 ticks", clock, 1, 2);
        clock.advance(15);
        serves("after 31 ticks", clock, 1, 2);
        clock.advance(1);
        serves("after 32 ticks", clock, 2, 1);
    }

    private static void slewsDownByASixteenth() {
        Due.by("with n = (H - u) / 16 .. otherwise c + n or c - n, whichever is nearer to t");
        MajorityClock clock = turnedTo(-3);
        serves("at the update", clock, 0, 3);
        clock.advance(15);
        serves("after 15 ticks", clock, 0, 3);
        clock.advance(1);
        serves("after 16 ticks", clock, -1, 2);
        clock.advance(15);
        serves("after 31 ticks", clock, -1, 2);
        clock.advance(1);
        serves("after 32 ticks", clock, -2, 1);
    }

    private static void lastStepIsReachedNotPassed() {
        Due.by("C is t when t is not more than n away from c");
        for (int sign = -1; sign <= 1; sign += 2) {
            MajorityClock clock = turnedTo(3 * sign);
            clock.advance(47);
            serves("after 47 ticks", clock, 2 * sign, 1);
            clock.advance(1);
            serves("after 48 ticks", clock, 3 * sign, 0);
            clock.advance(16);
            serves("after 64 ticks", clock, 3 * sign, 0);
            clock.advance(1000000);
            serves("after all", clock, 3 * sign, 0);
        }
        MajorityClock still = turnedTo(0);
        serves("with the same target", still, 0, 0);
        still.advance(16);
        serves("with the same target, later", still, 0, 0);
    }

    private static void turnsFromWhereItStood() {
        Due.by("From a later one on, made at hardware time u when C was c, with the target t");
        MajorityClock clock = turnedTo(100);
        clock.advance(175);
        serves("on its way", clock, 10, 90);
        Rig.sample(clock, 0, -50, -50, 0);
        clock.update();
        serves("at the turn", clock, 10, 60);
        clock.advance(15);
        serves("the ticks count from the turn", clock, 10, 60);
        clock.advance(1);
        serves("back", clock, 9, 59);
        clock.update();
        clock.advance(15);
        serves("an update starts the ticks anew", clock, 9, 59);
        clock.advance(1);
        serves("and they count from it", clock, 8, 58);
    }

    private static void targetIsNotBelowTheHull() {
        Due.by("but not below the hull's lower end");
        serves("one above it", updated(Rig.row(0, -26), Rig.row(20, 10)), 1, 9);
        serves("at it", updated(Rig.row(0, -30), Rig.row(20, 10)), 0, 10);
        serves("one below it", updated(Rig.row(0, -31), Rig.row(20, 10)), 0, 10);
        serves("far below it", updated(Rig.row(0, -1000), Rig.row(20, 10)), 0, 10);
    }

    private static void targetIsNotAboveTheHull() {
        Due.by("and not above its upper end");
        serves("one below it", updated(Rig.row(0, 10), Rig.row(20, 48)), 19, 9);
        serves("at it", updated(Rig.row(0, 10), Rig.row(20, 50)), 20, 10);
        serves("one above it", updated(Rig.row(0, 10), Rig.row(20, 54)), 20, 10);
        serves("far above it", updated(Rig.row(0, 10), Rig.row(20, 1000)), 20, 10);
    }

    private static void errorIsTheGreaterOne() {
        Due.by("The ERROR is the greater one of target - lower end and upper end - target.");
        serves("both equal", updated(Rig.row(0), Rig.row(10)), 5, 5);
        serves("the upper by one", updated(Rig.row(0), Rig.row(11)), 5, 6);
        serves("the lower", updated(Rig.row(0, 0), Rig.row(20, 30)), 12, 12);
        serves("the upper", updated(Rig.row(-30, -20), Rig.row(0, 0)), -13, 13);
        serves("none", updated(Rig.row(7), Rig.row(7)), 7, 0);
    }

    private static MajorityClock updated(long[] lows, long[] highs) {
        MajorityClock clock = Rig.withIntervals(lows, highs);
        clock.update();
        return clock;
    }

    private static void boundGrowsFromTheUpdate() {
        Due.by("and G(H - u), u being its time");
        MajorityClock clock = oneServer(1000);
        Rig.sample(clock, 0, 0, 10, 10);
        clock.advance(500);
        clock.update();
        serves("at the update", clock, 5, 6);
        clock.advance(1);
        serves("after 1 tick", clock, 5, 7);
        clock.advance(999);
        serves("after 1000 ticks", clock, 5, 7);
        clock.advance(1);
        serves("after 1001 ticks", clock, 5, 8);
        clock.update();
        serves("after another update", clock, 5, 7);
    }

    private static void boundHasAllThree() {
        Due.by("and the distance of C from its target, all three added");
        MajorityClock clock = oneServer(1000);
        Rig.sample(clock, 0, 0, 0, 0);
        clock.update();
        Rig.sample(clock, 0, 100, 100, 0);
        Rig.sample(clock, 0, 100, 100, 0);
        clock.tell(0, 1, 1, 7);
        clock.update();
        serves("error and distance", clock, 0, 7 + 100);
        clock.advance(1);
        serves("error, growth and distance", clock, 0, 7 + 1 + 100);
        clock.advance(15);
        serves("a step nearer", clock, 1, 7 + 1 + 99);
        clock.advance(1584);
        serves("there", clock, 100, 7 + 2);
    }

    private static void failedUpdateDoesNotStopTheSlew() {
        Due.by("0 when no server is usable, -1 when there is no majority: in these two cases nothing changes.");
        MajorityClock clock = turnedTo(100);
        clock.advance(8);
        clock.tell(0, 16, 1, 0);
        Due.is("update()", clock.update(), 0);
        clock.advance(8);
        serves("16 ticks after the update that found survivors", clock, 1, 99);
    }
}
