import java.util.function.ToLongFunction;

/** The limit on calls: all 512 of them are answered as promised, and nothing wraps until then. */
public final class CallLimitTest {
    private static final int CALLS = 512;
    private static final int LONGEST = 1000000;
    private static final long T40 = 1L << 40;

    public static void main(String[] args) {
        hardwareTime();
        stamps();
        samples();
        lastCallOfEveryKind();
        longestSlew();
        farthestAhead();
        farthestBehind();
        longestIntervals();
        Due.end();
    }

    private static void advance(MajorityClock clock, int times) {
        for (int i = 0; i < times; i++) {
            clock.advance(LONGEST);
        }
    }

    private static void hardwareTime() {
        Due.by("An object is used for at most 512 calls after it has been made");
        MajorityClock clock = new MajorityClock(1, 0, 0);
        for (int i = 1; i < CALLS; i++) {
            Due.yes("advance, call " + i, clock.advance(LONGEST));
        }
        Due.is("hardware(), call 512", clock.hardware(), 511000000L);
    }

    private static void stamps() {
        Due.by("An object is used for at most 512 calls after it has been made");
        MajorityClock clock = new MajorityClock(6, 0, 0);
        for (int i = 0; i < CALLS; i++) {
            Due.is("ask, call " + (i + 1), clock.ask(i % 6), i);
        }
    }

    private static void samples() {
        Due.by("An object is used for at most 512 calls after it has been made");
        MajorityClock clock = new MajorityClock(1, 0, 0);
        clock.advance(5);
        clock.advance(5);
        for (int i = 0; i < 170; i++) {
            Due.is("reply, call " + (5 + 3 * i), Rig.sealedReply(clock, 0, clock.ask(0), i, i), Math.min(i + 1, 8));
        }
        MajorityClock looked = new MajorityClock(1, 0, 0);
        for (int i = 0; i < 170; i++) {
            Rig.sealedReply(looked, 0, looked.ask(0), i, i);
        }
        Due.is("low(0), call 511", looked.low(0), 169);
        Due.is("high(0), call 512", looked.high(0), 169);
    }

    /** A clock after 511 calls: it serves from a sample at 0, 505000000 ticks ago, with the greatest drift. */
    private static MajorityClock oneCallBeforeTheLast() {
        MajorityClock clock = new MajorityClock(1, 1000, Rig.SELF);
        clock.tell(0, 1, 1, 0);
        clock.ask(0);
        clock.reply(0, 0, 0, 0, clock.seal(0, 0, 0, 0));
        clock.update();
        clock.grant(0, 1, 1000);
        advance(clock, CALLS - 7);
        return clock;
    }

    private static void last(String call, long due, ToLongFunction<MajorityClock> made) {
        Due.is(call + ", call 512", made.applyAsLong(oneCallBeforeTheLast()), due);
    }

    private static void lastCallOfEveryKind() {
        Due.by("An object is used for at most 512 calls after it has been made");
        last("advance(1000000)", 1, clock -> clock.advance(LONGEST) ? 1 : 0);
        last("advance(1000001)", 0, clock -> clock.advance(LONGEST + 1) ? 1 : 0);
        last("hardware()", 505000000L, clock -> clock.hardware());
        last("key(0, 5)", 1, clock -> clock.key(0, 5) ? 1 : 0);
        last("seal(0, 0, 0, 4096)", 2006685687, clock -> clock.seal(0, 0, 0, 4096));
        last("ask(0)", 505000000L, clock -> clock.ask(0));
        last("reply to the first again", MajorityClock.DUPLICATE, clock -> clock.reply(0, 0, 0, 0, 0));
        last("tell(0, 1, 1, 0)", 1, clock -> clock.tell(0, 1, 1, 0) ? 1 : 0);
        last("low(0)", -505000L, clock -> clock.low(0));
        last("high(0)", 505000L, clock -> clock.high(0));
        last("update()", 0, clock -> clock.update());
        last("survivors()", 1, clock -> clock.survivors());
        last("hull(false)", 0, clock -> clock.hull(false));
        last("hull(true)", 0, clock -> clock.hull(true));
        last("stratum()", 2, clock -> clock.stratum());
        last("time()", 505000000L, clock -> clock.time());
        last("bound()", 505000L, clock -> clock.bound());
        last("grant(0, 2, 1000000)", 506000000L, clock -> clock.grant(0, 2, 1000000));
        last("holds(0, 1, 999, 0)", 1, clock -> clock.holds(0, 1, 999, 0) ? 1 : 0);
        last("holds(0, 1, 1000, 0)", 0, clock -> clock.holds(0, 1, 1000, 0) ? 1 : 0);
        last("expiry(0)", 1000, clock -> clock.expiry(0));
        last("holder(0)", 1, clock -> clock.holder(0));
    }

    private static void longestSlew() {
        Due.by("nothing wraps but in a seal");
        MajorityClock clock = new MajorityClock(1, 0, Rig.SELF);
        clock.tell(0, 1, 1, 0);
        Rig.sealedReply(clock, 0, clock.ask(0), 0, 0);
        clock.update();
        Rig.sealedReply(clock, 0, clock.ask(0), T40, T40);
        clock.update();
        Due.is("bound() at once", clock.bound(), T40);
        advance(clock, 500);
        Due.is("time() on the way to 2^40", clock.time(), 500000000L + 31250000L);
        Due.is("bound() on the way to 2^40", clock.bound(), T40 - 31250000L);
    }

    private static void farthestAhead() {
        Due.by("nothing wraps but in a seal");
        MajorityClock clock = new MajorityClock(6, 1000, Rig.SELF);
        for (int s = 0; s < 6; s++) {
            clock.tell(s, 1, 1, 1000000);
            Rig.sealedReply(clock, s, clock.ask(s), T40, T40);
        }
        Due.is("update()", clock.update(), 3);
        Due.is("hull(false)", clock.hull(false), T40 - 1000000);
        Due.is("hull(true)", clock.hull(true), T40 + 1000000);
        advance(clock, 470);
        Due.is("time()", clock.time(), T40 + 470000000L);
        Due.is("bound()", clock.bound(), 1000000 + 470000);
        Due.is("low(5)", clock.low(5), T40 - 1470000);
        Due.is("high(5)", clock.high(5), T40 + 1470000);
        Due.is("grant(3, 1, 1000000)", clock.grant(3, 1, 1000000), T40 + 471000000L);
        Due.yes("holds() one below", clock.holds(3, 1, 470999999L, T40));
        Due.no("holds() at it", clock.holds(3, 1, 471000000L, T40));
        Due.no("holds() with the greatest reading and bound", clock.holds(3, 1, 2 * T40, T40));
    }

    private static void farthestBehind() {
        Due.by("nothing wraps but in a seal");
        MajorityClock clock = new MajorityClock(1, 1000, Rig.SELF);
        advance(clock, 300);
        clock.tell(0, 1, 1, 1000000);
        Rig.sealedReply(clock, 0, clock.ask(0), 0, 0);
        Due.is("low(0)", clock.low(0), -301000000L);
        Due.is("high(0)", clock.high(0), -299000000L);
        clock.update();
        Due.is("time()", clock.time(), 0);
        advance(clock, 190);
        Due.is("low(0) much later", clock.low(0), -301190000L);
        Due.is("high(0) much later", clock.high(0), -298810000L);
        Due.is("time() much later", clock.time(), 190000000L);
        Due.is("bound() much later", clock.bound(), 1190000L);
    }

    /** Sums of distances beyond the ints: were they to wrap, others would leave and be left. */
    private static void longestIntervals() {
        Due.by("nothing wraps but in a seal");
        MajorityClock clock = new MajorityClock(6, 0, Rig.SELF);
        for (int s = 0; s < 6; s++) {
            clock.tell(s, 1, 1, 0);
            clock.ask(s);
        }
        advance(clock, 480);
        long width = 480000000L;
        long[] uppers = {20, width - 10, width - 8, width, width + 7, width + 7};
        for (int s = 0; s < 6; s++) {
            Due.is("reply of " + s, Rig.sealedReply(clock, s, s, uppers[s], uppers[s]), 1);
        }
        Due.is("update()", clock.update(), 3);
        Due.is("survivors()", clock.survivors(), 8 + 16 + 32);
        Due.is("hull(false)", clock.hull(false), 7);
        Due.is("hull(true)", clock.hull(true), 20);
        Due.is("time()", clock.time(), width + 20);
        Due.is("bound()", clock.bound(), 13);
    }
}
