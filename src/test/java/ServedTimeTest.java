/** Promises 15 and 16: time, bound. */
public final class ServedTimeTest {
    public static void main(String[] args) {
        nothingBeforeTheFirstUpdate();
        firstTargetIsTakenAtOnce();
        slewsUpByASixteenth();
        slewsDownByASixteenth();
        turnsFromWhereItStood();
        targetStaysInTheHull();
        boundGrowsFromTheUpdate();
        failedUpdateDoesNotStopTheSlew();
        Due.end();
    }

    private static void serves(String when, MajorityClock clock, long correction, long bound) {
        Due.is("time() " + when, clock.time(), clock.hardware() + correction);
        Due.is("bound() " + when, clock.bound(), bound);
    }

    private static MajorityClock oneServer(int drift) {
        MajorityClock clock = new MajorityClock(1, drift, Rig.SELF);
        clock.tell(0, 1, 1, 0);
        clock.advance(10000);
        return clock;
    }

    private static void nothingBeforeTheFirstUpdate() {
        MajorityClock clock = oneServer(0);
        Rig.sample(clock, 0, 5, 5, 0);
        Due.is("time()", clock.time(), Rig.NOTHING);
        Due.is("bound()", clock.bound(), Rig.NOTHING);
        clock.tell(0, 16, 1, 0);
        clock.update();
        Due.is("time() after an update that found none", clock.time(), Rig.NOTHING);
        Due.is("bound() after an update that found none", clock.bound(), Rig.NOTHING);
    }

    private static void firstTargetIsTakenAtOnce() {
        MajorityClock clock = oneServer(0);
        Rig.sample(clock, 0, 900000, 900007, 10);
        clock.update();
        serves("at once", clock, 900003, 4);
        clock.advance(1000000);
        serves("much later", clock, 900003, 4);
    }

    private static void slewsUpByASixteenth() {
        MajorityClock clock = oneServer(0);
        Rig.sample(clock, 0, 0, 0, 0);
        clock.update();
        Rig.sample(clock, 0, 3, 3, 0);
        clock.update();
        serves("at the update", clock, 0, 3);
        clock.advance(15);
        serves("after 15 ticks", clock, 0, 3);
        clock.advance(1);
        serves("after 16 ticks", clock, 1, 2);
        clock.advance(15);
        serves("after 31 ticks", clock, 1, 2);
        clock.advance(16);
        serves("after 47 ticks", clock, 2, 1);
        clock.advance(1);
        serves("after 48 ticks", clock, 3, 0);
        clock.advance(1000);
        serves("after all", clock, 3, 0);
    }

    private static void slewsDownByASixteenth() {
        MajorityClock clock = oneServer(0);
        Rig.sample(clock, 0, 0, 0, 0);
        clock.update();
        Rig.sample(clock, 0, -3, -3, 0);
        clock.update();
        serves("at the update", clock, 0, 3);
        clock.advance(15);
        serves("after 15 ticks", clock, 0, 3);
        clock.advance(1);
        serves("after 16 ticks", clock, -1, 2);
        clock.advance(31);
        serves("after 47 ticks", clock, -2, 1);
        clock.advance(1);
        serves("after 48 ticks", clock, -3, 0);
        clock.advance(1000000);
        serves("after all", clock, -3, 0);
    }

    private static void turnsFromWhereItStood() {
        MajorityClock clock = oneServer(0);
        Rig.sample(clock, 0, 0, 0, 0);
        clock.update();
        Rig.sample(clock, 0, 100, 100, 0);
        clock.update();
        clock.advance(175);
        serves("on its way", clock, 10, 90);
        Rig.sample(clock, 0, -50, -50, 0);
        clock.update();
        serves("at the turn", clock, 10, 60);
        clock.advance(15);
        serves("the ticks count from the turn", clock, 10, 60);
        clock.advance(1);
        serves("back", clock, 9, 59);
        clock.update();
        clock.advance(15);
        serves("an update starts the ticks anew", clock, 9, 59);
    }

    private static void targetStaysInTheHull() {
        MajorityClock low = Rig.withIntervals(Rig.row(0, -1000), Rig.row(20, 10));
        low.update();
        serves("not below the hull", low, 0, 10);
        MajorityClock high = Rig.withIntervals(Rig.row(0, 10), Rig.row(20, 1000));
        high.update();
        serves("not above the hull", high, 20, 10);
        MajorityClock lop = Rig.withIntervals(Rig.row(0, 0), Rig.row(20, 30));
        lop.update();
        serves("the farther end is the error", lop, 12, 12);
        MajorityClock other = Rig.withIntervals(Rig.row(-30, -20), Rig.row(0, 0));
        other.update();
        serves("the farther end above", other, -13, 13);
    }

    private static void boundGrowsFromTheUpdate() {
        MajorityClock clock = oneServer(1000);
        Rig.sample(clock, 0, 0, 10, 10);
        clock.advance(500);
        clock.update();
        serves("at the update", clock, 5, 6);
        clock.advance(1);
        serves("after 1 tick", clock, 5, 7);
        clock.advance(999);
        serves("after 1000 ticks", clock, 5, 7);
        clock.advance(1);
        serves("after 1001 ticks", clock, 5, 8);
        clock.update();
        serves("after another update", clock, 5, 7);
    }

    private static void failedUpdateDoesNotStopTheSlew() {
        MajorityClock clock = oneServer(1000);
        Rig.sample(clock, 0, 0, 0, 0);
        clock.update();
        Rig.sample(clock, 0, 100, 100, 0);
        clock.update();
        clock.advance(8);
        clock.tell(0, 16, 1, 0);
        Due.is("update()", clock.update(), 0);
        clock.advance(8);
        serves("16 ticks after the update that found survivors", clock, 1, 100);
    }
}
