/** Promises 1 to 3: a new object, advance, hardware. */
public final class HardwareTest {
    public static void main(String[] args) {
        numberOfServersIsKeptWithinLimits();
        driftIsKeptWithinLimits();
        selfIsTakenAsItIs();
        newObjectKnowsNothing();
        advanceAndItsEdges();
        Due.end();
    }

    private static void numberOfServersIsKeptWithinLimits() {
        int[] given = {Integer.MIN_VALUE, -1, 0, 1, 2, 3, 4, 5, 6, 7, Integer.MAX_VALUE};
        int[] due = {1, 1, 1, 1, 2, 3, 4, 5, 6, 6, 6};
        for (int i = 0; i < given.length; i++) {
            MajorityClock clock = new MajorityClock(given[i], 0, 0);
            String made = "new MajorityClock(" + given[i] + ", 0, 0).key";
            Due.yes(made + " of the last server", clock.key(due[i] - 1, 1L));
            Due.no(made + " beyond the last server", clock.key(due[i], 1L));
        }
    }

    private static void driftIsKeptWithinLimits() {
        int[] given = {Integer.MIN_VALUE, -1, 0, 1, 999, 1000, 1001, Integer.MAX_VALUE};
        int[] due = {0, 0, 0, 1, 999, 1000, 1000, 1000};
        for (int i = 0; i < given.length; i++) {
            MajorityClock clock = new MajorityClock(1, given[i], 0);
            Rig.sample(clock, 0, 0, 0, 0);
            clock.advance(1000000);
            Due.is("high with drift " + given[i], clock.high(0), due[i]);
            Due.is("low with drift " + given[i], clock.low(0), -due[i]);
        }
    }

    private static void selfIsTakenAsItIs() {
        int[] selves = {Integer.MIN_VALUE, -1, 0, 7, Integer.MAX_VALUE};
        for (int self : selves) {
            MajorityClock clock = new MajorityClock(1, 0, self);
            Rig.sample(clock, 0, 0, 0, 0);
            clock.tell(0, 1, self, 0);
            Due.is("update with the reference SELF " + self, clock.update(), 0);
            clock.tell(0, 1, self ^ 1, 0);
            Due.is("update with another reference than " + self, clock.update(), 1);
        }
    }

    private static void newObjectKnowsNothing() {
        MajorityClock clock = new MajorityClock(2, 10, 5);
        Due.is("hardware()", clock.hardware(), 0);
        Due.is("reply to nothing", Rig.sealedReply(clock, 0, 0, 0, 0), MajorityClock.BOGUS);
        Due.is("low(0)", clock.low(0), Rig.NOTHING);
        Due.is("high(0)", clock.high(0), Rig.NOTHING);
        Due.is("update()", clock.update(), 0);
        Due.is("survivors()", clock.survivors(), 0);
        Due.is("hull(false)", clock.hull(false), Rig.NOTHING);
        Due.is("hull(true)", clock.hull(true), Rig.NOTHING);
        Due.is("stratum()", clock.stratum(), 16);
        Due.is("time()", clock.time(), Rig.NOTHING);
        Due.is("bound()", clock.bound(), Rig.NOTHING);
        Due.is("expiry(0)", clock.expiry(0), Rig.NOTHING);
        Due.is("holder(0)", clock.holder(0), -1);
        Due.is("seal under the key 0", clock.seal(0, 0, 0, 4096), 2006685687);
        Due.is("the first stamp", clock.ask(1), 0);
        Due.is("the first sample", Rig.sealedReply(clock, 1, 0, 3, 3), 1);
        Due.is("low(1) with the root 0", clock.low(1), 3);
        Due.is("high(1) with the root 0", clock.high(1), 3);
        Due.is("update with the stratum 16", clock.update(), 0);
    }

    private static void advanceAndItsEdges() {
        MajorityClock clock = new MajorityClock(1, 0, 0);
        Due.yes("advance(0)", clock.advance(0));
        Due.is("hardware()", clock.hardware(), 0);
        Due.yes("advance(1)", clock.advance(1));
        Due.yes("advance(1000000)", clock.advance(1000000));
        Due.is("hardware()", clock.hardware(), 1000001);
        Due.no("advance(1000001)", clock.advance(1000001));
        Due.no("advance(-1)", clock.advance(-1));
        Due.no("advance of the greatest int", clock.advance(Integer.MAX_VALUE));
        Due.no("advance of the least int", clock.advance(Integer.MIN_VALUE));
        Due.is("hardware()", clock.hardware(), 1000001);
        for (int i = 0; i < 500; i++) {
            clock.advance(1000000);
        }
        Due.is("hardware() after much", clock.hardware(), 501000001L);
    }
}
