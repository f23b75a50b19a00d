import java.math.BigInteger;

/** Promises 4 to 8: key, seal, ask, reply, tell. */
public final class RepliesTest {
    private static final long LATEST = 1L << 40;

    public static void main(String[] args) {
        keyAndWhatStays();
        sealsAreAsTheTermsSay();
        stampsAlwaysRise();
        requestTakesThePlaceOfAPendingOne();
        repliesAreRefusedInOrder();
        edgesOfMalformedAndHasty();
        duplicateIsTheLatestAcceptedOnly();
        refusedReplyChangesNothing();
        eightSamplesAtMost();
        tellAndItsEdges();
        Due.end();
    }

    private static void keyAndWhatStays() {
        MajorityClock clock = new MajorityClock(2, 0, 0);
        Due.no("key(-1, 1)", clock.key(-1, 1));
        Due.no("key(2, 1)", clock.key(2, 1));
        Due.no("key of the greatest int", clock.key(Integer.MAX_VALUE, 1));
        Due.no("key of the least int", clock.key(Integer.MIN_VALUE, 1));
        Rig.sample(clock, 0, 5, 5, 0);
        long origin = clock.ask(0);
        Due.yes("key(0, -9)", clock.key(0, -9));
        Due.is("low(0) after a new key", clock.low(0), 5);
        Due.is("seal under the new key", clock.seal(0, 1, 2, 3), sealOf(-9, 1, 2, 3));
        Due.is("seal under the other's key", clock.seal(1, 1, 2, 3), sealOf(0, 1, 2, 3));
        Due.is("reply sealed under the old key",
                clock.reply(0, origin, 0, 0, (int) sealOf(0, origin, 0, 0)), MajorityClock.FORGED);
        Due.is("reply to the request of before", Rig.sealedReply(clock, 0, origin, 0, 0), 2);
    }

    private static void sealsAreAsTheTermsSay() {
        long[] numbers = {0, 1, -1, 4096, LATEST, Long.MAX_VALUE, Long.MIN_VALUE, 0x123456789ABCDEFL};
        MajorityClock clock = new MajorityClock(3, 0, 0);
        for (long k : numbers) {
            clock.key(1, k);
            for (long a : numbers) {
                for (long b : numbers) {
                    Due.is("seal", clock.seal(1, a, b, k - a), sealOf(k, a, b, k - a));
                }
            }
        }
        Due.is("seal(-1, ..)", clock.seal(-1, 1, 2, 3), 0);
        Due.is("seal(3, ..)", clock.seal(3, 1, 2, 3), 0);
        Due.is("seal of the least int", clock.seal(Integer.MIN_VALUE, 1, 2, 3), 0);
    }

    private static long sealOf(long key, long origin, long received, long sent) {
        BigInteger all = BigInteger.ONE.shiftLeft(64);
        BigInteger h = BigInteger.valueOf(key).mod(all);
        for (long part : new long[] {origin, received, sent}) {
            h = h.xor(BigInteger.valueOf(part).mod(all));
            h = h.multiply(new BigInteger("9E3779B97F4A7C15", 16)).mod(all);
            h = h.xor(h.shiftRight(29));
        }
        return h.shiftRight(32).intValue();
    }

    private static void stampsAlwaysRise() {
        MajorityClock clock = new MajorityClock(3, 0, 0);
        Due.is("ask(-1)", clock.ask(-1), Rig.NOTHING);
        Due.is("ask(3)", clock.ask(3), Rig.NOTHING);
        Due.is("ask of the least int", clock.ask(Integer.MIN_VALUE), Rig.NOTHING);
        Due.is("the first stamp", clock.ask(0), 0);
        Due.is("ask(3)", clock.ask(3), Rig.NOTHING);
        Due.is("the second stamp", clock.ask(2), 1);
        Due.is("the third stamp", clock.ask(2), 2);
        clock.advance(2);
        Due.is("the stamp when the time has caught up", clock.ask(1), 3);
        clock.advance(2);
        Due.is("the stamp one above the one before", clock.ask(1), 4);
        clock.advance(100);
        Due.is("the stamp is the time", clock.ask(0), 104);
        Due.is("the stamp after it", clock.ask(0), 105);
    }

    private static void requestTakesThePlaceOfAPendingOne() {
        MajorityClock clock = new MajorityClock(2, 0, 0);
        long first = clock.ask(0);
        clock.advance(10);
        long second = clock.ask(0);
        long other = clock.ask(1);
        Due.is("reply to the replaced one", Rig.sealedReply(clock, 0, first, 0, 0), MajorityClock.BOGUS);
        Due.is("reply to another server's", Rig.sealedReply(clock, 0, other, 0, 0), MajorityClock.BOGUS);
        clock.advance(10);
        Due.is("hasty by the new request's time", Rig.sealedReply(clock, 0, second, 0, 11), MajorityClock.HASTY);
        Due.is("reply to the new one", Rig.sealedReply(clock, 0, second, 0, 10), 1);
        Due.is("low(0)", clock.low(0), -10);
        Due.is("high(0)", clock.high(0), -10);
        Due.is("the other's stays", Rig.sealedReply(clock, 1, other, 4, 5), 1);
        Due.is("low(1)", clock.low(1), -15);
        Due.is("high(1) counts from the time, not the stamp", clock.high(1), -6);
    }

    private static void repliesAreRefusedInOrder() {
        MajorityClock clock = new MajorityClock(1, 0, 0);
        Due.is("no such server, all else wrong", clock.reply(-1, 7, 5, -1, 1), MajorityClock.UNKNOWN);
        Due.is("no such server", clock.reply(1, 7, 5, -1, 1), MajorityClock.UNKNOWN);
        Due.is("malformed, forged too", clock.reply(0, 7, 5, 4, 1), MajorityClock.MALFORMED);
        int right = clock.seal(0, 7, 0, 4);
        Due.is("forged, bogus too", clock.reply(0, 7, 0, 4, right + 1), MajorityClock.FORGED);
        Due.is("forged by the sign", clock.reply(0, 7, 0, 4, right ^ Integer.MIN_VALUE), MajorityClock.FORGED);
        Due.is("bogus", clock.reply(0, 7, 0, 4, right), MajorityClock.BOGUS);
        long first = clock.ask(0);
        Due.is("bogus, hasty too", clock.reply(0, 7, 0, 4, right), MajorityClock.BOGUS);
        Due.is("hasty", Rig.sealedReply(clock, 0, first, 0, 1), MajorityClock.HASTY);
        Due.is("accepted", Rig.sealedReply(clock, 0, first, 1, 1), 1);
        Due.is("malformed, duplicate too", Rig.sealedReply(clock, 0, first, 2, 1), MajorityClock.MALFORMED);
        Due.is("forged, duplicate too",
                clock.reply(0, first, 1, 1, clock.seal(0, first, 1, 1) + 1), MajorityClock.FORGED);
        Due.is("duplicate, bogus too", Rig.sealedReply(clock, 0, first, 1, 1), MajorityClock.DUPLICATE);
        Due.is("duplicate with other times", Rig.sealedReply(clock, 0, first, 2, 9), MajorityClock.DUPLICATE);
        clock.ask(0);
        Due.is("duplicate, another pending", Rig.sealedReply(clock, 0, first, 1, 1), MajorityClock.DUPLICATE);
    }

    private static void edgesOfMalformedAndHasty() {
        MajorityClock clock = new MajorityClock(1, 0, 0);
        long origin = clock.ask(0);
        long[][] malformed = {{-1, 0}, {-1, -1}, {1, 0}, {LATEST, LATEST + 1}, {LATEST + 1, LATEST + 1},
            {0, Long.MAX_VALUE}, {Long.MIN_VALUE, 0}, {Long.MIN_VALUE, Long.MAX_VALUE}, {LATEST, LATEST - 1}};
        for (long[] times : malformed) {
            Due.is("reply with " + times[0] + ", " + times[1],
                    Rig.sealedReply(clock, 0, origin, times[0], times[1]), MajorityClock.MALFORMED);
        }
        Due.is("the widest there is", Rig.sealedReply(clock, 0, origin, 0, LATEST), MajorityClock.HASTY);
        Due.is("the latest there is", Rig.sealedReply(clock, 0, origin, LATEST, LATEST), 1);
        Due.is("low(0)", clock.low(0), LATEST);
        Due.is("high(0)", clock.high(0), LATEST);
        clock.advance(7);
        origin = clock.ask(0);
        clock.advance(100);
        Due.is("hasty by one", Rig.sealedReply(clock, 0, origin, 50, 151), MajorityClock.HASTY);
        Due.is("just not hasty", Rig.sealedReply(clock, 0, origin, 50, 150), 2);
        Due.is("low(0)", clock.low(0), 43);
        Due.is("high(0)", clock.high(0), 43);
    }

    private static void duplicateIsTheLatestAcceptedOnly() {
        MajorityClock clock = new MajorityClock(2, 0, 0);
        long first = clock.ask(0);
        Rig.sealedReply(clock, 0, first, 0, 0);
        long second = clock.ask(0);
        Due.is("accepted", Rig.sealedReply(clock, 0, second, 0, 0), 2);
        Due.is("an earlier one is bogus", Rig.sealedReply(clock, 0, first, 0, 0), MajorityClock.BOGUS);
        Due.is("the latest is a duplicate", Rig.sealedReply(clock, 0, second, 0, 0), MajorityClock.DUPLICATE);
        Due.is("not one of the other server", Rig.sealedReply(clock, 1, second, 0, 0), MajorityClock.BOGUS);
        Due.is("any origin", Rig.sealedReply(clock, 1, Long.MIN_VALUE, 0, 0), MajorityClock.BOGUS);
    }

    private static void refusedReplyChangesNothing() {
        MajorityClock clock = new MajorityClock(1, 0, 0);
        long origin = clock.ask(0);
        clock.advance(10);
        Rig.sealedReply(clock, 0, origin, 1, 0);
        clock.reply(0, origin, 0, 0, clock.seal(0, origin, 0, 0) + 1);
        Rig.sealedReply(clock, 0, origin + 1, 0, 0);
        Rig.sealedReply(clock, 0, origin, 0, 11);
        Due.is("low(0) after refusals", clock.low(0), Rig.NOTHING);
        Due.is("accepted after refusals", Rig.sealedReply(clock, 0, origin, 3, 8), 1);
        Rig.sealedReply(clock, 0, origin, 0, 1);
        Due.is("low(0) after a duplicate", clock.low(0), -2);
        Due.is("high(0) after a duplicate", clock.high(0), 3);
    }

    private static void eightSamplesAtMost() {
        MajorityClock clock = new MajorityClock(2, 0, 0);
        for (int i = 1; i <= 20; i++) {
            long origin = clock.ask(0);
            Due.is("reply " + i, Rig.sealedReply(clock, 0, origin, 0, 0), Math.min(i, 8));
        }
        Due.is("the other has its own", Rig.sealedReply(clock, 1, clock.ask(1), 0, 0), 1);
    }

    private static void tellAndItsEdges() {
        MajorityClock clock = new MajorityClock(2, 0, 0);
        Rig.sample(clock, 0, 0, 0, 0);
        Due.yes("tell(0, 3, 1, 50)", clock.tell(0, 3, 1, 50));
        int[][] wrong = {{-1, 1, 1, 0}, {2, 1, 1, 0}, {Integer.MAX_VALUE, 1, 1, 0}, {Integer.MIN_VALUE, 1, 1, 0},
            {0, 0, 0, 0}, {0, -1, 0, 0}, {0, 17, 0, 0}, {0, Integer.MAX_VALUE, 0, 0}, {0, Integer.MIN_VALUE, 0, 0},
            {0, 1, 0, -1}, {0, 1, 0, 1000001}, {0, 1, 0, Integer.MAX_VALUE}, {0, 1, 0, Integer.MIN_VALUE}};
        for (int[] w : wrong) {
            Due.no("tell(" + w[0] + ", " + w[1] + ", " + w[2] + ", " + w[3] + ")",
                    clock.tell(w[0], w[1], w[2], w[3]));
        }
        Due.is("high(0) with the root of before", clock.high(0), 50);
        Due.is("update with the reference of before", clock.update(), 1);
        Due.is("stratum of before", clock.stratum(), 4);
        Due.yes("tell(1, 16, 0, 0)", clock.tell(1, 16, 0, 0));
        Due.yes("tell(0, 1, .., 1000000)", clock.tell(0, 1, Integer.MIN_VALUE, 1000000));
        Due.is("high(0)", clock.high(0), 1000000);
        Due.is("low(0)", clock.low(0), -1000000);
        Due.is("update()", clock.update(), 1);
        Due.is("stratum()", clock.stratum(), 2);
        Due.yes("tell(0, 2, .., 0)", clock.tell(0, 2, Integer.MAX_VALUE, 0));
        Due.is("high(0)", clock.high(0), 0);
        Due.yes("tell(0, 16, 1, 0)", clock.tell(0, 16, 1, 0));
        Due.is("update with the stratum 16", clock.update(), 0);
    }
}
