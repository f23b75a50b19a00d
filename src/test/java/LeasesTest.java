/** Promises 17 to 20: grant, holds, expiry, holder. */
public final class LeasesTest {
    private static final long T40 = 1L << 40;
    private static final int[] NO_LEASES = {-1, 4, 5, Integer.MAX_VALUE, Integer.MIN_VALUE};

    public static void main(String[] args) {
        grantOfNoLease();
        grantToNoHolder();
        edgesOfTheDuration();
        noGrantBeforeTheFirstUpdate();
        expiryIsServedTimeAndDuration();
        leasesAreApart();
        renewalsMustNotShorten();
        renewalWhenItIsOver();
        anotherMustWaitUntilItIsOver();
        overTakesGrowthIntoAccount();
        overTakesTheWayToTheTargetIntoAccount();
        holdsOnlyWhatWasGranted();
        holdsForItsHolderAlone();
        holdsToNoOtherSince();
        edgesOfTheBound();
        edgesOfTheReading();
        holdsBelowTheExpiry();
        holdsByTheLatestGrant();
        expiryOfNoLease();
        expiryBeforeAGrant();
        holderOfNoLease();
        holderBeforeAGrant();
        Due.end();
    }

    /** A clock at hardware time 10000 that serves 10000, with the bound given. */
    private static MajorityClock serving(int bound) {
        MajorityClock clock = Rig.withIntervals(Rig.row(-bound), Rig.row(bound));
        clock.update();
        return clock;
    }

    /** A clock at hardware time 0 that serves 2^40. */
    private static MajorityClock farAhead() {
        MajorityClock clock = new MajorityClock(1, 0, Rig.SELF);
        clock.tell(0, 1, 1, 0);
        Rig.sample(clock, 0, T40, T40, 0);
        clock.update();
        return clock;
    }

    private static void lease(String when, MajorityClock clock, int lease, int holder, long expiry) {
        Due.is("holder(" + lease + ") " + when, clock.holder(lease), holder);
        Due.is("expiry(" + lease + ") " + when, clock.expiry(lease), expiry);
    }

    private static void noneGranted(String when, MajorityClock clock) {
        for (int i = 0; i < 4; i++) {
            lease(when, clock, i, -1, Rig.NOTHING);
        }
    }

    private static void grantOfNoLease() {
        Due.by("NOTHING, refused, when there is no such lease");
        MajorityClock clock = serving(5);
        for (int i : NO_LEASES) {
            Due.is("grant(" + i + ", 1, 10)", clock.grant(i, 1, 10), Rig.NOTHING);
        }
        noneGranted("after these", clock);
        Due.is("grant(0, 1, 10)", clock.grant(0, 1, 10), 10010);
        Due.is("grant(3, 1, 10)", clock.grant(3, 1, 10), 10010);
    }

    private static void grantToNoHolder() {
        Due.by("holder is below 0");
        MajorityClock clock = serving(5);
        int[] wrong = {-1, -2, Integer.MIN_VALUE};
        for (int holder : wrong) {
            Due.is("grant(0, " + holder + ", 10)", clock.grant(0, holder, 10), Rig.NOTHING);
        }
        noneGranted("after these", clock);
        Due.is("grant(0, 0, 10)", clock.grant(0, 0, 10), 10010);
        lease("of the holder 0", clock, 0, 0, 10010);
        Due.is("grant(1, greatest, 10)", clock.grant(1, Integer.MAX_VALUE, 10), 10010);
        lease("of the greatest holder", clock, 1, Integer.MAX_VALUE, 10010);
    }

    private static void edgesOfTheDuration() {
        Due.by("duration is not 1 .. 1000000");
        MajorityClock clock = serving(5);
        int[] wrong = {0, 1000001, -1, Integer.MAX_VALUE, Integer.MIN_VALUE};
        for (int duration : wrong) {
            Due.is("grant(0, 1, " + duration + ")", clock.grant(0, 1, duration), Rig.NOTHING);
        }
        noneGranted("after these", clock);
        Due.is("grant(0, 1, 1)", clock.grant(0, 1, 1), 10001);
        Due.is("grant(1, 1, 999999)", clock.grant(1, 1, 999999), 1009999);
        Due.is("grant(2, 1, 1000000)", clock.grant(2, 1, 1000000), 1010000);
        for (int duration : wrong) {
            Due.is("renewal for " + duration, clock.grant(0, 1, duration), Rig.NOTHING);
            lease("after a wrong renewal", clock, 0, 1, 10001);
        }
    }

    private static void noGrantBeforeTheFirstUpdate() {
        Due.by("no update found survivors yet");
        MajorityClock clock = Rig.withIntervals(Rig.row(0, 7), Rig.row(0, 7));
        Due.is("grant before an update", clock.grant(0, 1, 10), Rig.NOTHING);
        noneGranted("before an update", clock);
        Due.is("update()", clock.update(), -1);
        Due.is("grant after an update without a majority", clock.grant(0, 1, 10), Rig.NOTHING);
        clock.tell(0, 16, 1, 0);
        clock.tell(1, 16, 1, 0);
        Due.is("update()", clock.update(), 0);
        Due.is("grant after an update without usable servers", clock.grant(0, 1, 10), Rig.NOTHING);
        noneGranted("after updates that found none", clock);
        clock.tell(0, 1, 1, 0);
        Due.is("update()", clock.update(), 1);
        Due.is("grant after an update", clock.grant(0, 1, 10), 10010);
    }

    private static void expiryIsServedTimeAndDuration() {
        Due.by("with the expiry served time + duration, and answers that expiry");
        MajorityClock clock = serving(5);
        clock.advance(7);
        Due.is("grant(0, 3, 10)", clock.grant(0, 3, 10), 10017);
        lease("as answered", clock, 0, 3, 10017);
        Rig.sample(clock, 0, 100, 100, 0);
        clock.update();
        clock.advance(32);
        Due.is("grant(1, 3, 10) on the way to a target", clock.grant(1, 3, 10), 10039 + 2 + 10);
        MajorityClock far = farAhead();
        Due.is("grant far ahead", far.grant(0, 1, 1000000), T40 + 1000000);
        lease("far ahead", far, 0, 1, T40 + 1000000);
    }

    private static void leasesAreApart() {
        Due.by("LEASES are 0 .. 3. A lease that was granted has a HOLDER and an EXPIRY (a time).");
        MajorityClock clock = serving(0);
        for (int i = 0; i < 4; i++) {
            Due.is("grant of lease " + i, clock.grant(i, 10 + i, 100 + i), 10100 + i);
        }
        for (int i = 0; i < 4; i++) {
            lease("of four", clock, i, 10 + i, 10100 + i);
        }
    }

    private static void renewalsMustNotShorten() {
        Due.by("or its holder is the same one and the new expiry would be below the present one");
        MajorityClock clock = serving(5);
        clock.grant(0, 1, 100);
        Due.is("shorter by one", clock.grant(0, 1, 99), Rig.NOTHING);
        lease("after a refused renewal", clock, 0, 1, 10100);
        Due.is("an equal one", clock.grant(0, 1, 100), 10100);
        lease("after an equal renewal", clock, 0, 1, 10100);
        Due.is("longer by one", clock.grant(0, 1, 101), 10101);
        lease("after a renewal", clock, 0, 1, 10101);
        clock.advance(50);
        Due.is("shorter by one, later", clock.grant(0, 1, 50), Rig.NOTHING);
        Due.is("an equal one, later", clock.grant(0, 1, 51), 10101);
    }

    private static void renewalWhenItIsOver() {
        Due.by("Grants a lease to a holder, or renews it");
        MajorityClock clock = serving(5);
        clock.grant(0, 1, 100);
        clock.advance(104);
        Due.is("the same holder, past the expiry but not over", clock.grant(0, 1, 1), 10105);
        clock.advance(500);
        Due.is("the same holder, long over", clock.grant(0, 1, 1), 10605);
        lease("after these", clock, 0, 1, 10605);
    }

    private static void anotherMustWaitUntilItIsOver() {
        Due.by("It is OVER when the served time less the bound is not below the expiry.");
        MajorityClock clock = serving(5);
        clock.grant(0, 1, 100);
        Due.is("to another at once", clock.grant(0, 2, 1000), Rig.NOTHING);
        clock.advance(100);
        Due.is("to another at the expiry", clock.grant(0, 2, 1000), Rig.NOTHING);
        clock.advance(4);
        Due.is("to another one tick before it is over", clock.grant(0, 2, 1000), Rig.NOTHING);
        lease("before it is over", clock, 0, 1, 10100);
        clock.advance(1);
        Due.is("to another when it is over", clock.grant(0, 2, 10), 10115);
        lease("when it is over", clock, 0, 2, 10115);
        Due.is("back to the one before", clock.grant(0, 1, 10), Rig.NOTHING);
        MajorityClock sure = serving(0);
        sure.grant(0, 1, 100);
        sure.advance(99);
        Due.is("to another before the expiry, bound 0", sure.grant(0, 2, 1), Rig.NOTHING);
        sure.advance(1);
        Due.is("to another at the expiry, bound 0", sure.grant(0, 2, 1), 10101);
    }

    private static void overTakesGrowthIntoAccount() {
        Due.by("It is OVER when the served time less the bound is not below the expiry.");
        MajorityClock clock = new MajorityClock(1, 1000, Rig.SELF);
        clock.tell(0, 1, 1, 0);
        clock.advance(5000);
        Rig.sample(clock, 0, 0, 0, 0);
        clock.update();
        clock.grant(0, 1, 1000);
        clock.advance(1001);
        Due.is("growth 2 is not over yet", clock.grant(0, 2, 10), Rig.NOTHING);
        clock.advance(1);
        Due.is("growth 2 is over", clock.grant(0, 2, 10), 6012);
    }

    private static void overTakesTheWayToTheTargetIntoAccount() {
        Due.by("It is OVER when the served time less the bound is not below the expiry.");
        MajorityClock clock = serving(0);
        clock.grant(0, 1, 10);
        Rig.sample(clock, 0, 100, 100, 0);
        clock.update();
        clock.advance(98);
        Due.is("98 ticks, 6 steps of 100", clock.time() - clock.bound(), 10104 - 94);
        Due.is("to another when it is over", clock.grant(0, 2, 10), 10114);
        MajorityClock before = serving(0);
        before.grant(0, 1, 10);
        Rig.sample(before, 0, 100, 100, 0);
        before.update();
        before.advance(97);
        Due.is("to another one tick before", before.grant(0, 2, 10), Rig.NOTHING);
    }

    private static void holdsOnlyWhatWasGranted() {
        Due.by("the lease was granted to this holder");
        MajorityClock clock = serving(5);
        for (int holder = -1; holder <= 1; holder++) {
            Due.no("holds(0, " + holder + ", ..) before a grant", clock.holds(0, holder, -T40, 0));
        }
        Due.is("a refused grant", clock.grant(0, 1, 0), Rig.NOTHING);
        Due.no("holds(0, 1, ..) after a refused grant", clock.holds(0, 1, -T40, 0));
        clock.grant(0, 1, 100);
        Due.yes("holds(0, 1, ..) after a grant", clock.holds(0, 1, -T40, 0));
        for (int lease : NO_LEASES) {
            Due.no("holds(" + lease + ", 1, ..)", clock.holds(lease, 1, -T40, 0));
        }
        Due.no("holds() of another lease", clock.holds(1, 1, -T40, 0));
        Due.no("holds() of the last lease", clock.holds(3, 1, -T40, 0));
        clock.grant(3, 1, 100);
        Due.yes("holds() of the last lease when granted", clock.holds(3, 1, -T40, 0));
    }

    private static void holdsForItsHolderAlone() {
        Due.by("the lease was granted to this holder");
        MajorityClock clock = serving(5);
        clock.grant(0, 1, 100);
        int[] others = {0, 2, -1, Integer.MAX_VALUE, Integer.MIN_VALUE};
        for (int holder : others) {
            Due.no("holds(0, " + holder + ", ..)", clock.holds(0, holder, 0, 0));
        }
        Due.yes("holds(0, 1, ..)", clock.holds(0, 1, 0, 0));
        clock.grant(1, 0, 100);
        clock.grant(2, Integer.MAX_VALUE, 100);
        Due.yes("holds() of the holder 0", clock.holds(1, 0, 0, 0));
        Due.yes("holds() of the greatest holder", clock.holds(2, Integer.MAX_VALUE, 0, 0));
    }

    private static void holdsToNoOtherSince() {
        Due.by("(and to no other since)");
        MajorityClock clock = serving(5);
        clock.grant(0, 1, 100);
        clock.advance(1000);
        Due.yes("holds() goes by the reading alone, over or not", clock.holds(0, 1, 10099, 0));
        Due.is("to another", clock.grant(0, 2, 100), 11100);
        Due.no("holds() of the one before", clock.holds(0, 1, 0, 0));
        Due.yes("holds() of the next", clock.holds(0, 2, 0, 0));
        Due.is("refused to the one before", clock.grant(0, 1, 100), Rig.NOTHING);
        Due.no("holds() of the one before still", clock.holds(0, 1, 0, 0));
        clock.advance(1000);
        Due.is("back to the one before", clock.grant(0, 1, 100), 12100);
        Due.yes("holds() of the one before again", clock.holds(0, 1, 0, 0));
        Due.no("holds() of the next no more", clock.holds(0, 2, 0, 0));
    }

    private static void edgesOfTheBound() {
        Due.by("bound is 0 .. 2^40");
        MajorityClock far = farAhead();
        far.grant(0, 1, 1);
        Due.yes("holds() with the bound 0", far.holds(0, 1, 0, 0));
        Due.no("holds() with the bound -1", far.holds(0, 1, 0, -1));
        Due.no("holds() with the least bound", far.holds(0, 1, 0, Long.MIN_VALUE));
        Due.yes("holds() with the bound 2^40", far.holds(0, 1, 0, T40));
        Due.yes("holds() with the bound 2^40, the reading lower", far.holds(0, 1, -5, T40));
        Due.no("holds() with the bound 2^40 + 1", far.holds(0, 1, -5, T40 + 1));
        Due.no("holds() with the greatest bound", far.holds(0, 1, -T40, Long.MAX_VALUE));
        Due.no("holds() with a bound whose sum would wrap", far.holds(0, 1, 1, Long.MAX_VALUE));
    }

    private static void edgesOfTheReading() {
        Due.by("reading is -2^40 .. 2^41");
        MajorityClock far = farAhead();
        far.grant(0, 1, 1000);
        Due.yes("holds() with the reading -2^40", far.holds(0, 1, -T40, 0));
        Due.yes("holds() with the reading -2^40 and the bound 2^40", far.holds(0, 1, -T40, T40));
        Due.no("holds() with the reading -2^40 - 1", far.holds(0, 1, -T40 - 1, 0));
        Due.no("holds() with the reading -2^40 - 1 and the bound 2^40", far.holds(0, 1, -T40 - 1, T40));
        Due.no("holds() with the least reading", far.holds(0, 1, Long.MIN_VALUE, 0));
        Due.no("holds() with NOTHING read", far.holds(0, 1, Rig.NOTHING, 0));
        Due.no("holds() with the reading 2^41", far.holds(0, 1, 2 * T40, 0));
        Due.no("holds() with the reading 2^41 + 1", far.holds(0, 1, 2 * T40 + 1, 0));
        Due.no("holds() with the greatest reading", far.holds(0, 1, Long.MAX_VALUE, 0));
        Due.no("holds() with a reading whose sum would wrap", far.holds(0, 1, Long.MAX_VALUE, T40));
        Due.no("holds() with two that would wrap", far.holds(0, 1, Long.MAX_VALUE, Long.MAX_VALUE));
    }

    private static void holdsBelowTheExpiry() {
        Due.by("and reading + bound is below the expiry");
        MajorityClock clock = serving(5);
        clock.grant(0, 1, 100);
        Due.yes("holds() one below", clock.holds(0, 1, 10099, 0));
        Due.no("holds() at it", clock.holds(0, 1, 10100, 0));
        Due.no("holds() one above", clock.holds(0, 1, 10101, 0));
        Due.yes("holds() one below with a bound", clock.holds(0, 1, 10049, 50));
        Due.no("holds() at it with a bound", clock.holds(0, 1, 10050, 50));
        Due.yes("holds() one below by the bound", clock.holds(0, 1, 0, 10099));
        Due.no("holds() at it by the bound", clock.holds(0, 1, 0, 10100));
        MajorityClock far = farAhead();
        far.grant(0, 1, 1000);
        Due.yes("holds() one below, above 2^40", far.holds(0, 1, T40 + 999, 0));
        Due.no("holds() at it, above 2^40", far.holds(0, 1, T40 + 1000, 0));
        Due.yes("holds() one below, above 2^40 by both", far.holds(0, 1, 999, T40));
        Due.no("holds() at it, above 2^40 by both", far.holds(0, 1, 1000, T40));
    }

    private static void holdsByTheLatestGrant() {
        Due.by("the expiry that was told at the latest grant");
        MajorityClock clock = serving(5);
        clock.grant(0, 1, 100);
        Due.no("holds() at the first expiry", clock.holds(0, 1, 10100, 0));
        clock.grant(0, 1, 200);
        Due.yes("holds() after a renewal", clock.holds(0, 1, 10199, 0));
        Due.no("holds() at the second expiry", clock.holds(0, 1, 10200, 0));
        clock.grant(0, 1, 150);
        Due.yes("holds() after a refused renewal", clock.holds(0, 1, 10199, 0));
        clock.grant(0, 2, 900);
        Due.no("holds() of one refused", clock.holds(0, 2, 0, 0));
        Due.no("holds() at the second expiry still", clock.holds(0, 1, 10200, 0));
    }

    private static MajorityClock withAllGranted() {
        MajorityClock clock = serving(0);
        for (int i = 0; i < 4; i++) {
            clock.grant(i, 1, 10);
        }
        return clock;
    }

    private static void expiryOfNoLease() {
        Due.by("NOTHING when there is no such lease or it was not granted yet.");
        MajorityClock clock = withAllGranted();
        for (int i : NO_LEASES) {
            Due.is("expiry(" + i + ")", clock.expiry(i), Rig.NOTHING);
        }
        Due.is("expiry(0)", clock.expiry(0), 10010);
        Due.is("expiry(3)", clock.expiry(3), 10010);
    }

    private static void expiryBeforeAGrant() {
        Due.by("NOTHING when there is no such lease or it was not granted yet.");
        MajorityClock clock = serving(0);
        for (int i = 0; i < 4; i++) {
            Due.is("expiry(" + i + ") at first", clock.expiry(i), Rig.NOTHING);
        }
        clock.grant(1, 0, 10);
        Due.is("expiry(1) when granted", clock.expiry(1), 10010);
        Due.is("expiry(0) still", clock.expiry(0), Rig.NOTHING);
        Due.is("expiry(2) still", clock.expiry(2), Rig.NOTHING);
        clock.advance(1000);
        Due.is("expiry(1) when over", clock.expiry(1), 10010);
    }

    private static void holderOfNoLease() {
        Due.by("-1 when there is no such lease or it was not granted yet.");
        MajorityClock clock = withAllGranted();
        for (int i : NO_LEASES) {
            Due.is("holder(" + i + ")", clock.holder(i), -1);
        }
        Due.is("holder(0)", clock.holder(0), 1);
        Due.is("holder(3)", clock.holder(3), 1);
    }

    private static void holderBeforeAGrant() {
        Due.by("-1 when there is no such lease or it was not granted yet.");
        MajorityClock clock = serving(0);
        for (int i = 0; i < 4; i++) {
            Due.is("holder(" + i + ") at first", clock.holder(i), -1);
        }
        clock.grant(1, 0, 10);
        Due.is("holder(1) when granted", clock.holder(1), 0);
        Due.is("holder(0) still", clock.holder(0), -1);
        Due.is("holder(2) still", clock.holder(2), -1);
        clock.advance(1000);
        Due.is("holder(1) when over", clock.holder(1), 0);
    }
}
