/** Promises 17 to 20: grant, holds, expiry, holder. */
public final class LeasesTest {
    private static final long T40 = 1L << 40;

    public static void main(String[] args) {
        wrongGrants();
        noGrantBeforeTheFirstUpdate();
        leasesAreApart();
        renewalsMustNotShorten();
        anotherMustWaitUntilItIsOver();
        overTakesTheBoundIntoAccount();
        whoMayRelyOnIt();
        edgesOfReadingAndBound();
        nothingThere();
        Due.end();
    }

    /** A clock at hardware time 10000 that serves 10000, with the bound given. */
    private static MajorityClock serving(int bound) {
        MajorityClock clock = Rig.withIntervals(Rig.row(-bound), Rig.row(bound));
        clock.update();
        return clock;
    }

    private static void lease(String when, MajorityClock clock, int lease, int holder, long expiry) {
        Due.is("holder(" + lease + ") " + when, clock.holder(lease), holder);
        Due.is("expiry(" + lease + ") " + when, clock.expiry(lease), expiry);
    }

    private static void wrongGrants() {
        MajorityClock clock = serving(5);
        int[][] wrong = {{-1, 1, 10}, {4, 1, 10}, {Integer.MAX_VALUE, 1, 10}, {Integer.MIN_VALUE, 1, 10},
            {0, -1, 10}, {0, Integer.MIN_VALUE, 10}, {0, 1, 0}, {0, 1, -1}, {0, 1, 1000001},
            {0, 1, Integer.MAX_VALUE}, {0, 1, Integer.MIN_VALUE}};
        for (int[] w : wrong) {
            Due.is("grant(" + w[0] + ", " + w[1] + ", " + w[2] + ")", clock.grant(w[0], w[1], w[2]), Rig.NOTHING);
        }
        lease("after wrong grants", clock, 0, -1, Rig.NOTHING);
        Due.is("grant(0, 0, 1)", clock.grant(0, 0, 1), 10001);
        lease("with the least arguments", clock, 0, 0, 10001);
        Due.is("grant of the longest", clock.grant(3, Integer.MAX_VALUE, 1000000), 1010000);
        lease("with the greatest arguments", clock, 3, Integer.MAX_VALUE, 1010000);
        Due.is("grant with a wrong duration to the holder", clock.grant(0, 0, 1000001), Rig.NOTHING);
        lease("after a wrong renewal", clock, 0, 0, 10001);
    }

    private static void noGrantBeforeTheFirstUpdate() {
        MajorityClock clock = Rig.withIntervals(Rig.row(0), Rig.row(0));
        Due.is("grant before an update", clock.grant(0, 1, 10), Rig.NOTHING);
        lease("before an update", clock, 0, -1, Rig.NOTHING);
        clock.tell(0, 16, 1, 0);
        clock.update();
        Due.is("grant after an update that found none", clock.grant(0, 1, 10), Rig.NOTHING);
        clock.tell(0, 1, 1, 0);
        clock.update();
        Due.is("grant after an update", clock.grant(0, 1, 10), 10010);
    }

    private static void leasesAreApart() {
        MajorityClock clock = serving(0);
        for (int i = 0; i < 4; i++) {
            Due.is("grant of lease " + i, clock.grant(i, 10 + i, 100 + i), 10100 + i);
        }
        for (int i = 0; i < 4; i++) {
            lease("of four", clock, i, 10 + i, 10100 + i);
        }
    }

    private static void renewalsMustNotShorten() {
        MajorityClock clock = serving(5);
        clock.grant(0, 1, 100);
        Due.is("a shorter one", clock.grant(0, 1, 99), Rig.NOTHING);
        lease("after a refused renewal", clock, 0, 1, 10100);
        Due.is("an equal one", clock.grant(0, 1, 100), 10100);
        Due.is("a longer one", clock.grant(0, 1, 101), 10101);
        lease("after a renewal", clock, 0, 1, 10101);
        clock.advance(50);
        Due.is("a shorter one later", clock.grant(0, 1, 50), Rig.NOTHING);
        Due.is("an equal one later", clock.grant(0, 1, 51), 10101);
        clock.advance(500);
        Due.is("one long over", clock.grant(0, 1, 1), 10551);
    }

    private static void anotherMustWaitUntilItIsOver() {
        MajorityClock clock = serving(5);
        clock.grant(0, 1, 100);
        Due.is("to another at once", clock.grant(0, 2, 1000), Rig.NOTHING);
        clock.advance(100);
        Due.is("to another at the expiry", clock.grant(0, 2, 1000), Rig.NOTHING);
        clock.advance(4);
        Due.is("to another just before it is over", clock.grant(0, 2, 1000), Rig.NOTHING);
        lease("before it is over", clock, 0, 1, 10100);
        clock.advance(1);
        Due.is("to another when it is over", clock.grant(0, 2, 10), 10115);
        lease("when it is over", clock, 0, 2, 10115);
        Due.is("to the one before", clock.grant(0, 1, 10), Rig.NOTHING);
    }

    private static void overTakesTheBoundIntoAccount() {
        MajorityClock clock = new MajorityClock(1, 1000, Rig.SELF);
        clock.tell(0, 1, 1, 0);
        clock.advance(5000);
        Rig.sample(clock, 0, 0, 0, 0);
        clock.update();
        clock.grant(0, 1, 1000);
        clock.advance(1001);
        Due.is("growth 2 is not over yet", clock.grant(0, 2, 10), Rig.NOTHING);
        clock.advance(1);
        Due.is("growth 2 is over", clock.grant(0, 2, 10), 6012);
        Rig.sample(clock, 0, 100, 100, 0);
        clock.update();
        clock.advance(16);
        Due.is("the way to the target counts", clock.grant(0, 3, 10), Rig.NOTHING);
        clock.advance(83);
        Due.is("not over yet", clock.time() - clock.bound(), 6012);
        Due.is("over", clock.grant(0, 3, 10), clock.time() + 10);
    }

    private static void whoMayRelyOnIt() {
        MajorityClock clock = serving(5);
        Due.no("holds() before a grant", clock.holds(0, 1, 0, 0));
        Due.no("holds() of -1 before a grant", clock.holds(0, -1, -1, 0));
        Due.no("holds() of 0 before a grant", clock.holds(0, 0, -1, 0));
        clock.grant(0, 1, 100);
        Due.yes("holds() just before", clock.holds(0, 1, 10099, 0));
        Due.no("holds() at the expiry", clock.holds(0, 1, 10100, 0));
        Due.yes("holds() just before with a bound", clock.holds(0, 1, 10049, 50));
        Due.no("holds() at the expiry with a bound", clock.holds(0, 1, 10050, 50));
        Due.no("holds() of another", clock.holds(0, 2, 0, 0));
        Due.no("holds() of -1", clock.holds(0, -1, 0, 0));
        Due.no("holds() of another lease", clock.holds(1, 1, 0, 0));
        Due.no("holds() of no lease", clock.holds(-1, 1, 0, 0));
        Due.no("holds() of no lease", clock.holds(4, 1, 0, 0));
        clock.grant(0, 1, 200);
        Due.yes("holds() after a renewal", clock.holds(0, 1, 10199, 0));
        clock.advance(1000);
        Due.yes("holds() goes by the reading alone", clock.holds(0, 1, 10199, 0));
        clock.grant(0, 2, 100);
        Due.no("holds() of the one before", clock.holds(0, 1, 0, 0));
        Due.yes("holds() of the next", clock.holds(0, 2, 0, 0));
    }

    private static void edgesOfReadingAndBound() {
        MajorityClock far = new MajorityClock(1, 0, Rig.SELF);
        far.tell(0, 1, 1, 0);
        Rig.sample(far, 0, T40, T40, 0);
        far.update();
        Due.is("grant far ahead", far.grant(0, 1, 1), T40 + 1);
        Due.yes("holds() with the greatest bound", far.holds(0, 1, 0, T40));
        Due.no("holds() with too great a bound", far.holds(0, 1, -5, T40 + 1));
        Due.no("holds() with the bound -1", far.holds(0, 1, 0, -1));
        Due.no("holds() with the least bound", far.holds(0, 1, 0, Long.MIN_VALUE));
        Due.no("holds() with the greatest long", far.holds(0, 1, -T40, Long.MAX_VALUE));
        Due.yes("holds() with the least reading", far.holds(0, 1, -T40, 0));
        Due.yes("holds() with the least reading and the greatest bound", far.holds(0, 1, -T40, T40));
        Due.no("holds() below the least reading", far.holds(0, 1, -T40 - 1, 0));
        Due.no("holds() with the least long", far.holds(0, 1, Long.MIN_VALUE, 0));
        Due.is("grant beyond 2^40", far.grant(0, 1, 1000), T40 + 1000);
        Due.yes("holds() with a reading above 2^40", far.holds(0, 1, T40 + 999, 0));
        Due.no("holds() at the expiry above 2^40", far.holds(0, 1, T40 + 1000, 0));
        Due.no("holds() at 2^41", far.holds(0, 1, 2 * T40, 0));
        Due.no("holds() above 2^41", far.holds(0, 1, 2 * T40 + 1, 0));
        Due.no("holds() with sums that would wrap", far.holds(0, 1, Long.MAX_VALUE, T40));
        Due.no("holds() with both that would wrap", far.holds(0, 1, Long.MAX_VALUE, Long.MAX_VALUE));
    }

    private static void nothingThere() {
        MajorityClock clock = serving(0);
        clock.grant(0, 1, 10);
        int[] wrong = {-1, 1, 3, 4, Integer.MAX_VALUE, Integer.MIN_VALUE};
        for (int i : wrong) {
            lease("that is not there", clock, i, -1, Rig.NOTHING);
        }
    }
}
