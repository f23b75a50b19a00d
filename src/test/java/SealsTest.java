import java.math.BigInteger;

/** Promises 4 and 5: key, seal. */
public final class SealsTest {
    private static final int[] NO_SERVERS = {-1, 3, 4, 6, Integer.MAX_VALUE, Integer.MIN_VALUE};
    private static final long[] NUMBERS = {0, 1, -1, 4096, 1L << 40, 1L << 63, Long.MAX_VALUE, MajorityClock.NOTHING,
        0x123456789ABCDEFL, 0xFEDCBA9876543210L};

    public static void main(String[] args) {
        keyAtFirst();
        keyOfOneServer();
        keyOfNoServer();
        samplesAndRequestStay();
        multiplicationWraps();
        shiftIsWithoutSign();
        upperHalfAsAnInt();
        oneAfterTheOtherInTheirOrder();
        anyLongs();
        sealOfNoServer();
        Due.end();
    }

    private static long sealOf(long key, long origin, long received, long sent) {
        BigInteger all = BigInteger.ONE.shiftLeft(64);
        BigInteger h = BigInteger.valueOf(key).mod(all);
        for (long part : new long[] {origin, received, sent}) {
            h = h.xor(BigInteger.valueOf(part).mod(all));
            h = h.multiply(new BigInteger("9E3779B97F4A7C15", 16)).mod(all);
            h = h.xor(h.shiftRight(29));
        }
        return h.shiftRight(32).intValue();
    }

    private static void keyAtFirst() {
        Due.by("Each has a KEY (0 at first)");
        MajorityClock clock = new MajorityClock(6, 0, 0);
        for (int s = 0; s < 6; s++) {
            Due.is("seal(" + s + ", 0, 0, 4096)", clock.seal(s, 0, 0, 4096), 2006685687);
            clock.key(s, 1);
            Due.is("seal with the key 1", clock.seal(s, 1, 0, 4096), 2006685687);
            clock.key(s, 0);
            Due.is("seal with the key 0 again", clock.seal(s, 0, 0, 4096), 2006685687);
        }
    }

    private static void keyOfOneServer() {
        Due.by("Server s has the key k: true");
        MajorityClock clock = new MajorityClock(3, 0, 0);
        Due.yes("key(0, 5)", clock.key(0, 5));
        Due.yes("key(2, least)", clock.key(2, Long.MIN_VALUE));
        Due.is("seal of 0", clock.seal(0, 1, 2, 3), sealOf(5, 1, 2, 3));
        Due.is("seal of 1", clock.seal(1, 1, 2, 3), sealOf(0, 1, 2, 3));
        Due.is("seal of 2", clock.seal(2, 1, 2, 3), sealOf(Long.MIN_VALUE, 1, 2, 3));
        Due.yes("key(0, -9)", clock.key(0, -9));
        Due.is("seal of 0 with a new key", clock.seal(0, 1, 2, 3), sealOf(-9, 1, 2, 3));
        Due.is("seal of 1 still", clock.seal(1, 1, 2, 3), sealOf(0, 1, 2, 3));
    }

    private static void keyOfNoServer() {
        Due.by("false when there is no such server.");
        MajorityClock clock = new MajorityClock(3, 0, 0);
        for (int s : NO_SERVERS) {
            Due.no("key(" + s + ", 5)", clock.key(s, 5));
        }
        for (int s = 0; s < 3; s++) {
            Due.is("seal(" + s + ", 0, 0, 4096) after these", clock.seal(s, 0, 0, 4096), 2006685687);
            Due.yes("key(" + s + ", 5)", clock.key(s, 5));
        }
    }

    private static void samplesAndRequestStay() {
        Due.by("(Samples and a pending request stay.)");
        MajorityClock clock = new MajorityClock(1, 0, 0);
        Rig.sample(clock, 0, 5, 5, 0);
        long origin = clock.ask(0);
        clock.key(0, -9);
        Due.is("low(0) after a new key", clock.low(0), 5);
        Due.is("high(0) after a new key", clock.high(0), 5);
        Due.is("reply sealed under the old key",
                clock.reply(0, origin, 0, 0, (int) sealOf(0, origin, 0, 0)), MajorityClock.FORGED);
        Due.is("duplicate under the new key", Rig.sealedReply(clock, 0, 0, 0, 0), MajorityClock.DUPLICATE);
        Due.is("reply to the request of before", Rig.sealedReply(clock, 0, origin, 0, 0), 2);
    }

    private static void multiplicationWraps() {
        Due.by("h becomes (h xor it) * 0x9E3779B97F4A7C15 (wrapping)");
        MajorityClock clock = new MajorityClock(1, 0, 0);
        Due.is("the factor itself", clock.seal(0, 0, 0, 1), 0x9E3779BD);
        Due.is("twice the factor wraps", clock.seal(0, 0, 0, 2), 0x3C6EF373);
        Due.is("-1 times the factor", clock.seal(0, 0, 0, -1), 0x61C88645);
        Due.is("the key and what is sealed cancel out", clock.seal(0, 0, 0, 0), 0);
    }

    private static void shiftIsWithoutSign() {
        Due.by("and then h xor (h shifted right by 29 without sign)");
        MajorityClock clock = new MajorityClock(1, 0, 0);
        Due.is("only the highest bit", clock.seal(0, 0, 0, Long.MIN_VALUE), 0x80000004);
        Due.is("the highest bit but one", clock.seal(0, 0, 0, 1L << 62), 0x40000002);
    }

    private static void upperHalfAsAnInt() {
        Due.by("The seal is the upper 32 bits of h, as an int.");
        MajorityClock clock = new MajorityClock(1, 0, 0);
        Due.is("a seal above 0", clock.seal(0, 0, 0, 1L << 32), 0x7F4A7C15 ^ (int) (0x7F4A7C15L >> 29));
        Due.is("a seal below 0", clock.seal(0, 0, 0, 1L << 33), 0xFE94F82A ^ (int) (0xFE94F82AL >> 29));
    }

    private static void oneAfterTheOtherInTheirOrder() {
        Due.by("for each of the three in their order");
        MajorityClock clock = new MajorityClock(1, 0, 0);
        Due.is("0, 0, 1", clock.seal(0, 0, 0, 1), sealOf(0, 0, 0, 1));
        Due.is("0, 1, 0", clock.seal(0, 0, 1, 0), sealOf(0, 0, 1, 0));
        Due.is("1, 0, 0", clock.seal(0, 1, 0, 0), sealOf(0, 1, 0, 0));
        Due.yes("the three differ", sealOf(0, 0, 0, 1) != sealOf(0, 0, 1, 0) && sealOf(0, 0, 1, 0) != sealOf(0, 1, 0, 0)
                && sealOf(0, 0, 0, 1) != sealOf(0, 1, 0, 0));
    }

    private static void anyLongs() {
        Due.by("The seal of origin, received and sent (any longs) under the key of server s");
        for (long k : NUMBERS) {
            MajorityClock clock = new MajorityClock(3, 0, 0);
            clock.key(1, k);
            for (long a : NUMBERS) {
                for (long b : NUMBERS) {
                    Due.is("seal(1, " + a + ", " + b + ", ..) under " + k, clock.seal(1, a, b, k - a),
                            sealOf(k, a, b, k - a));
                }
            }
        }
    }

    private static void sealOfNoServer() {
        Due.by("0 when there is no such server.");
        MajorityClock clock = new MajorityClock(3, 0, 0);
        for (int s : NO_SERVERS) {
            Due.is("seal(" + s + ", 1, 2, 3)", clock.seal(s, 1, 2, 3), 0);
        }
        Due.is("seal(0, 1, 2, 3)", clock.seal(0, 1, 2, 3), sealOf(0, 1, 2, 3));
        Due.is("seal(2, 1, 2, 3)", clock.seal(2, 1, 2, 3), sealOf(0, 1, 2, 3));
    }
}
