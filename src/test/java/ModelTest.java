import java.util.Random;

/** All promises: long runs of chosen calls, each answer compared with that of the model. */
public final class ModelTest {
    private static final int RUNS = 1500;
    private static final int CALLS = 512;
    private static final int MOST_CALLS_OF_A_STEP = 9;
    private static final int[] ODD_INTS = {0, 1, -1, 2, 6, 7, 16, 17, 1000000, 1000001,
        Integer.MAX_VALUE, Integer.MIN_VALUE};
    private static final long[] ODD_LONGS = {0, 1, -1, 1L << 40, (1L << 40) + 1, -(1L << 40), -(1L << 40) - 1,
        1L << 41, (1L << 41) + 1, Long.MAX_VALUE, Long.MIN_VALUE, MajorityClock.NOTHING};

    private final Random random;
    private final int servers;
    private final int truth;
    private final int spread;
    private final int longest;
    private final MajorityClock clock;
    private final Model model;
    private final long[] origins = new long[6];
    private final long[] asked = new long[6];

    private ModelTest(int seed) {
        random = new Random(seed);
        servers = 1 + random.nextInt(6);
        int drift = random.nextInt(4) == 0 ? oddInt() : random.nextInt(1001);
        int self = random.nextInt(4);
        // Narrow runs make agreement, ties and touching ends likely; wide ones reach for the limits.
        spread = new int[] {3, 12, 60, 400, 20000}[random.nextInt(5)];
        longest = new int[] {30, 300, 3000, 1000000}[random.nextInt(4)];
        truth = random.nextInt(3) * 1000;
        clock = new MajorityClock(servers, drift, self);
        model = new Model(servers, drift, self);
    }

    public static void main(String[] args) {
        for (int seed = 0; seed < RUNS && !Due.anyWrong(); seed++) {
            new ModelTest(seed).run(seed);
        }
        Due.end();
    }

    private void run(int seed) {
        int made = random.nextBoolean() ? tellAll() : 0;
        while (made + MOST_CALLS_OF_A_STEP <= CALLS && !Due.anyWrong()) {
            made += step("run " + seed + ", call " + made + ": ");
        }
        while (made < CALLS) {
            made += lastLook("run " + seed + ", call " + made + ": ");
        }
    }

    private int lastLook(String at) {
        if (random.nextBoolean()) {
            Due.is(at + "time()", clock.time(), model.time());
        } else {
            Due.is(at + "bound()", clock.bound(), model.bound());
        }
        return 1;
    }

    private int oddInt() {
        return ODD_INTS[random.nextInt(ODD_INTS.length)];
    }

    private long oddLong() {
        return ODD_LONGS[random.nextInt(ODD_LONGS.length)];
    }

    private int someServer() {
        return random.nextInt(25) == 0 ? oddInt() : random.nextInt(servers);
    }

    private int someLease() {
        return random.nextInt(25) == 0 ? oddInt() : random.nextInt(4);
    }

    private int step(String at) {
        switch (random.nextInt(12)) {
            case 0: case 1: return doAdvance(at);
            case 2: case 3: return doAsk(at);
            case 4: case 5: case 6: return doReply(at);
            case 7: return random.nextInt(5) == 0 ? doKey(at) : doTell(at);
            case 8: return doUpdate(at);
            case 9: return doGrant(at);
            case 10: return doHolds(at);
            default: return doLook(at);
        }
    }

    private int doAdvance(String at) {
        int n = random.nextInt(30) == 0 ? oddInt() : random.nextInt(longest + 1);
        Due.is(at + "advance(" + n + ")", clock.advance(n) ? 1 : 0, model.advance(n) ? 1 : 0);
        Due.is(at + "hardware()", clock.hardware(), model.hardware());
        return 2;
    }

    private int doAsk(String at) {
        int s = someServer();
        long stamp = clock.ask(s);
        Due.is(at + "ask(" + s + ")", stamp, model.ask(s));
        if (s >= 0 && s < servers) {
            origins[s] = stamp;
            asked[s] = model.hardware();
        }
        return 1;
    }

    private int doReply(String at) {
        int s = someServer();
        boolean known = s >= 0 && s < servers;
        long origin = known ? origins[s] : 0;
        long start = known ? asked[s] : 0;
        long received = Math.max(0, start + truth + random.nextInt(2 * spread + 1) - spread);
        long wait = model.hardware() - start;
        long sent = received + Math.max(0, wait - random.nextInt(spread + 2) + (random.nextInt(8) == 0 ? 1 : 0));
        switch (random.nextInt(40)) {
            case 0: origin = oddLong(); break;
            case 1: received = oddLong(); break;
            case 2: sent = oddLong(); break;
            case 3: origin -= 1; break;
            case 4: sent = received - 1; break;
            default: break;
        }
        int seal = model.seal(s, origin, received, sent);
        Due.is(at + "seal", clock.seal(s, origin, received, sent), seal);
        if (random.nextInt(30) == 0) {
            seal ^= 1 << random.nextInt(32);
        }
        Due.is(at + "reply(" + s + ", " + origin + ", " + received + ", " + sent + ", " + seal + ")",
                clock.reply(s, origin, received, sent, seal), model.reply(s, origin, received, sent, seal));
        return 2 + lookAtInterval(at, s);
    }

    private int doKey(String at) {
        int s = someServer();
        long k = random.nextBoolean() ? oddLong() : random.nextLong();
        Due.is(at + "key(" + s + ", " + k + ")", clock.key(s, k) ? 1 : 0, model.key(s, k) ? 1 : 0);
        return 1;
    }

    private int doTell(String at) {
        int s = someServer();
        int stratum = random.nextInt(15) == 0 ? oddInt() : 1 + random.nextInt(15);
        int reference = random.nextInt(6);
        int root = random.nextInt(15) == 0 ? oddInt() : random.nextInt(spread + 1);
        Due.is(at + "tell(" + s + ", " + stratum + ", " + reference + ", " + root + ")",
                clock.tell(s, stratum, reference, root) ? 1 : 0, model.tell(s, stratum, reference, root) ? 1 : 0);
        return 1;
    }

    /** Makes all servers usable from the start, so that many of them take part in the updates. */
    private int tellAll() {
        for (int s = 0; s < servers; s++) {
            int stratum = 1 + random.nextInt(14);
            Due.is("tell at first", clock.tell(s, stratum, 5, 0) ? 1 : 0, model.tell(s, stratum, 5, 0) ? 1 : 0);
        }
        return servers;
    }

    private int doUpdate(String at) {
        Due.is(at + "update()", clock.update(), model.update());
        return 1 + doLook(at);
    }

    private int doGrant(String at) {
        int lease = someLease();
        int holder = random.nextInt(20) == 0 ? oddInt() : random.nextInt(3);
        int duration = random.nextInt(20) == 0 ? oddInt() : 1 + random.nextInt(longest);
        Due.is(at + "grant(" + lease + ", " + holder + ", " + duration + ")",
                clock.grant(lease, holder, duration), model.grant(lease, holder, duration));
        Due.is(at + "holder(" + lease + ")", clock.holder(lease), model.holder(lease));
        Due.is(at + "expiry(" + lease + ")", clock.expiry(lease), model.expiry(lease));
        return 3;
    }

    private int doHolds(String at) {
        int lease = someLease();
        int holder = random.nextInt(20) == 0 ? oddInt() : random.nextInt(3);
        long bound = random.nextInt(10) == 0 ? oddLong() : random.nextInt(spread + 1);
        long reading = random.nextInt(10) == 0 ? oddLong() : model.expiry(lease) - bound + random.nextInt(3) - 1;
        Due.is(at + "holds(" + lease + ", " + holder + ", " + reading + ", " + bound + ")",
                clock.holds(lease, holder, reading, bound) ? 1 : 0, model.holds(lease, holder, reading, bound) ? 1 : 0);
        return 1;
    }

    private int lookAtInterval(String at, int s) {
        Due.is(at + "low(" + s + ")", clock.low(s), model.low(s));
        Due.is(at + "high(" + s + ")", clock.high(s), model.high(s));
        return 2;
    }

    private int doLook(String at) {
        Due.is(at + "survivors()", clock.survivors(), model.survivors());
        Due.is(at + "hull(false)", clock.hull(false), model.hull(false));
        Due.is(at + "hull(true)", clock.hull(true), model.hull(true));
        Due.is(at + "stratum()", clock.stratum(), model.stratum());
        Due.is(at + "time()", clock.time(), model.time());
        Due.is(at + "bound()", clock.bound(), model.bound());
        return 6 + lookAtInterval(at, someServer());
    }
}
