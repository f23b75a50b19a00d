/**
 * A clock that is kept right by asking several time servers, some of which may lie, and that says
 * how wrong it can be at most; with leases that rely on that.
 */
public final class MajorityClock {
    public static final long NOTHING = -4611686018427387904L;
    public static final int UNKNOWN = -1;
    public static final int MALFORMED = -2;
    public static final int FORGED = -3;
    public static final int DUPLICATE = -4;
    public static final int BOGUS = -5;
    public static final int HASTY = -6;

    private static final int MOST_SERVERS = 6;
    private static final int MOST_DRIFT = 1000;
    private static final int MOST_SAMPLES = 8;
    private static final int MOST_SURVIVORS = 3;
    private static final int LEASES = 4;
    private static final int LONGEST_STEP = 1000000;
    private static final int LONGEST_LEASE = 1000000;
    private static final int GREATEST_ROOT = 1000000;
    private static final long OLDEST_USABLE = 1000000L;
    private static final int LAST_STRATUM = 16;
    private static final int LAST_USABLE_STRATUM = 14;
    private static final long DRIFT_UNIT = 1000000L;
    private static final long SLEW = 16L;
    private static final long LATEST_REPLY_TIME = 1L << 40;
    private static final long GREATEST_BOUND = 1L << 40;
    private static final long LEAST_READING = -(1L << 40);
    private static final long GREATEST_READING = 1L << 41;
    private static final long SEAL_FACTOR = 0x9E3779B97F4A7C15L;

    private final Server[] servers;
    private final Lease[] leases;
    private final Election election;
    private final Served served;
    private final int drift;
    private final int self;
    private long now;
    // One below the first stamp there can be, so that the first request needs no rule of its own.
    private long latestStamp = -1L;

    public MajorityClock(int servers, int drift, int self) {
        int number = Math.min(Math.max(servers, 1), MOST_SERVERS);
        this.drift = Math.min(Math.max(drift, 0), MOST_DRIFT);
        this.self = self;
        this.servers = new Server[number];
        for (int s = 0; s < number; s++) {
            this.servers[s] = new Server();
        }
        this.leases = new Lease[LEASES];
        for (int i = 0; i < LEASES; i++) {
            this.leases[i] = new Lease();
        }
        this.election = new Election();
        this.served = new Served();
    }

    public boolean advance(int n) {
        if (n < 0 || n > LONGEST_STEP) {
            return false;
        }
        now += n;
        return true;
    }

    public long hardware() {
        return now;
    }

    public boolean key(int s, long k) {
        Server server = serverOrNull(s);
        if (server == null) {
            return false;
        }
        server.secret = k;
        return true;
    }

    public int seal(int s, long origin, long received, long sent) {
        Server server = serverOrNull(s);
        if (server == null) {
            return 0;
        }
        return sealUnder(server.secret, origin, received, sent);
    }

    public long ask(int s) {
        Server server = serverOrNull(s);
        if (server == null) {
            return NOTHING;
        }
        latestStamp = Math.max(now, latestStamp + 1);
        server.expectReply(latestStamp, now);
        return latestStamp;
    }

    public int reply(int s, long origin, long received, long sent, int seal) {
        Server server = serverOrNull(s);
        if (server == null) {
            return UNKNOWN;
        }
        if (!isReplyTime(received) || !isReplyTime(sent) || received > sent) {
            return MALFORMED;
        }
        if (seal != sealUnder(server.secret, origin, received, sent)) {
            return FORGED;
        }
        if (server.acceptedLast(origin)) {
            return DUPLICATE;
        }
        if (!server.expects(origin)) {
            return BOGUS;
        }
        if (sent - received > now - server.pendingSince) {
            return HASTY;
        }
        server.accept(origin, received, sent, now);
        return server.samples;
    }

    public boolean tell(int s, int stratum, int reference, int root) {
        Server server = serverOrNull(s);
        if (server == null || stratum < 1 || stratum > LAST_STRATUM
                || root < 0 || root > GREATEST_ROOT) {
            return false;
        }
        server.toldStratum = stratum;
        server.toldReference = reference;
        server.toldRoot = root;
        return true;
    }

    public long low(int s) {
        Server server = serverOrNull(s);
        if (server == null || server.samples == 0) {
            return NOTHING;
        }
        return server.lowerEnd(server.shortestSample(now, drift), now, drift);
    }

    public long high(int s) {
        Server server = serverOrNull(s);
        if (server == null || server.samples == 0) {
            return NOTHING;
        }
        return server.upperEnd(server.shortestSample(now, drift), now, drift);
    }

    public int update() {
        callElection();
        if (election.count == 0) {
            return 0;
        }
        if (!election.findHull()) {
            return -1;
        }
        election.keepThoseAtHull();
        election.keepTheClosest();
        served.follow(election.target(), now);
        served.remember(election, survivorsLeastStratum());
        return election.count;
    }

    public int survivors() {
        return served.survivorBits;
    }

    public long hull(boolean upper) {
        if (!served.started) {
            return NOTHING;
        }
        return upper ? served.hullHigh : served.hullLow;
    }

    public int stratum() {
        return served.ownStratum;
    }

    public long time() {
        if (!served.started) {
            return NOTHING;
        }
        return now + served.correctionAt(now);
    }

    public long bound() {
        if (!served.started) {
            return NOTHING;
        }
        return served.wrongAtMost(now, drift);
    }

    public long grant(int lease, int holder, int duration) {
        Lease wanted = leaseOrNull(lease);
        if (wanted == null || holder < 0 || duration < 1 || duration > LONGEST_LEASE
                || !served.started) {
            return NOTHING;
        }
        long until = time() + duration;
        if (wanted.granted && !mayFollow(wanted, holder, until)) {
            return NOTHING;
        }
        wanted.give(holder, until);
        return until;
    }

    public boolean holds(int lease, int holder, long reading, long bound) {
        Lease claimed = leaseOrNull(lease);
        if (claimed == null || !claimed.granted || claimed.owner != holder) {
            return false;
        }
        if (bound < 0 || bound > GREATEST_BOUND
                || reading < LEAST_READING || reading > GREATEST_READING) {
            return false;
        }
        return reading + bound < claimed.until;
    }

    public long expiry(int lease) {
        Lease known = leaseOrNull(lease);
        return known == null || !known.granted ? NOTHING : known.until;
    }

    public int holder(int lease) {
        Lease known = leaseOrNull(lease);
        return known == null || !known.granted ? -1 : known.owner;
    }

    private Server serverOrNull(int s) {
        return s < 0 || s >= servers.length ? null : servers[s];
    }

    private Lease leaseOrNull(int lease) {
        return lease < 0 || lease >= leases.length ? null : leases[lease];
    }

    private boolean isUsable(Server server) {
        return server.toldStratum >= 1 && server.toldStratum <= LAST_USABLE_STRATUM
                && server.toldReference != self
                && server.samples > 0
                && now - server.latestSampleTime() <= OLDEST_USABLE;
    }

    private void callElection() {
        election.clear();
        for (int s = 0; s < servers.length; s++) {
            Server server = servers[s];
            if (server != null && isUsable(server)) {
                int shortest = server.shortestSample(now, drift);
                election.enter(s, server.lowerEnd(shortest, now, drift),
                        server.upperEnd(shortest, now, drift));
            }
        }
    }

    private int survivorsLeastStratum() {
        int least = LAST_STRATUM;
        for (int i = 0; i < election.count; i++) {
            Server server = serverOrNull(election.numbers[i]);
            if (server != null) {
                least = Math.min(least, server.toldStratum);
            }
        }
        return least;
    }

    private boolean mayFollow(Lease present, int holder, long until) {
        if (present.owner == holder) {
            return until >= present.until;
        }
        return isOver(present);
    }

    private boolean isOver(Lease lease) {
        return time() - bound() >= lease.until;
    }

    private static boolean isReplyTime(long time) {
        return time >= 0 && time <= LATEST_REPLY_TIME;
    }

    private static int sealUnder(long secret, long origin, long received, long sent) {
        long hash = mixed(mixed(mixed(secret, origin), received), sent);
        return (int) (hash >>> 32);
    }

    private static long mixed(long hash, long value) {
        long product = (hash ^ value) * SEAL_FACTOR;
        return product ^ (product >>> 29);
    }

    private static long growth(long ticks, int drift) {
        return Math.floorDiv(ticks * drift + DRIFT_UNIT - 1, DRIFT_UNIT);
    }

    /** What is known of one time server. */
    private static final class Server {
        long secret;
        boolean pending;
        long pendingStamp;
        long pendingSince;
        long acceptedOrigin;
        int toldStratum = LAST_STRATUM;
        int toldReference;
        int toldRoot;
        int samples;
        // The latest sample is first in these rows.
        final long[] lowEnds = new long[MOST_SAMPLES];
        final long[] highEnds = new long[MOST_SAMPLES];
        final long[] times = new long[MOST_SAMPLES];

        void expectReply(long stamp, long since) {
            pending = true;
            pendingStamp = stamp;
            pendingSince = since;
        }

        // Samples are never taken away altogether: having some means that a reply was accepted.
        boolean acceptedLast(long origin) {
            return samples > 0 && acceptedOrigin == origin;
        }

        boolean expects(long origin) {
            return pending && pendingStamp == origin;
        }

        void accept(long origin, long received, long sent, long now) {
            makeRoomForSample();
            lowEnds[0] = sent - now;
            highEnds[0] = received - pendingSince;
            times[0] = now;
            acceptedOrigin = origin;
            pending = false;
        }

        private void makeRoomForSample() {
            samples = Math.min(samples + 1, MOST_SAMPLES);
            for (int i = samples - 1; i > 0; i--) {
                lowEnds[i] = lowEnds[i - 1];
                highEnds[i] = highEnds[i - 1];
                times[i] = times[i - 1];
            }
        }

        long latestSampleTime() {
            return times[0];
        }

        int shortestSample(long now, int drift) {
            int shortest = 0;
            for (int i = 1; i < samples; i++) {
                if (lengthOf(i, now, drift) < lengthOf(shortest, now, drift)) {
                    shortest = i;
                }
            }
            return shortest;
        }

        private long lengthOf(int i, long now, int drift) {
            return upperEnd(i, now, drift) - lowerEnd(i, now, drift);
        }

        long lowerEnd(int i, long now, int drift) {
            return lowEnds[i] - toldRoot - growth(now - times[i], drift);
        }

        long upperEnd(int i, long now, int drift) {
            return highEnds[i] + toldRoot + growth(now - times[i], drift);
        }
    }

    /** The rows in which an update works; they stay in the order of the servers' numbers. */
    private static final class Election {
        int count;
        final int[] numbers = new int[MOST_SERVERS];
        final long[] lows = new long[MOST_SERVERS];
        final long[] highs = new long[MOST_SERVERS];
        long hullLow;
        long hullHigh;

        void clear() {
            count = 0;
        }

        void enter(int number, long low, long high) {
            if (count < MOST_SERVERS) {
                put(count, number, low, high);
                count++;
            }
        }

        private void put(int place, int number, long low, long high) {
            numbers[place] = number;
            lows[place] = low;
            highs[place] = high;
        }

        boolean findHull() {
            for (int liars = 0; 2 * liars < count; liars++) {
                if (findHullOf(count - liars)) {
                    return true;
                }
            }
            return false;
        }

        // The least number that enough intervals share is the low end of one of them, and the
        // greatest is the high end of one: no other numbers need to be looked at.
        private boolean findHullOf(int needed) {
            long least = Long.MAX_VALUE;
            long greatest = Long.MIN_VALUE;
            for (int i = 0; i < count; i++) {
                if (intervalsAround(lows[i]) >= needed) {
                    least = Math.min(least, lows[i]);
                }
                if (intervalsAround(highs[i]) >= needed) {
                    greatest = Math.max(greatest, highs[i]);
                }
            }
            if (least > greatest) {
                return false;
            }
            hullLow = least;
            hullHigh = greatest;
            return true;
        }

        private int intervalsAround(long point) {
            int around = 0;
            for (int i = 0; i < count; i++) {
                if (lows[i] <= point && point <= highs[i]) {
                    around++;
                }
            }
            return around;
        }

        void keepThoseAtHull() {
            int kept = 0;
            for (int i = 0; i < count; i++) {
                if (lows[i] <= hullHigh && highs[i] >= hullLow) {
                    put(kept, numbers[i], lows[i], highs[i]);
                    kept++;
                }
            }
            count = kept;
        }

        void keepTheClosest() {
            for (int left = count; left > MOST_SURVIVORS; left--) {
                remove(farthest());
            }
        }

        private int farthest() {
            int farthest = 0;
            for (int i = 1; i < count; i++) {
                // Not below: among equal ones the highest number leaves.
                if (distances(i) >= distances(farthest)) {
                    farthest = i;
                }
            }
            return farthest;
        }

        private long distances(int i) {
            long sum = 0;
            for (int j = 0; j < count; j++) {
                sum += Math.abs(middle(i) - middle(j));
            }
            return sum;
        }

        private long middle(int i) {
            return Math.floorDiv(lows[i] + highs[i], 2L);
        }

        private void remove(int place) {
            for (int i = place + 1; i < count; i++) {
                put(i - 1, numbers[i], lows[i], highs[i]);
            }
            count--;
        }

        long target() {
            long sum = 0;
            for (int i = 0; i < count; i++) {
                sum += middle(i);
            }
            long mean = count == 0 ? 0 : Math.floorDiv(sum, (long) count);
            return Math.max(hullLow, Math.min(hullHigh, mean));
        }

        int bits() {
            int bits = 0;
            for (int i = 0; i < count; i++) {
                bits |= 1 << numbers[i];
            }
            return bits;
        }
    }

    /** What the latest update that found survivors left behind, and the time served from it. */
    private static final class Served {
        boolean started;
        long since;
        long startCorrection;
        long target;
        long error;
        long hullLow;
        long hullHigh;
        int survivorBits;
        int ownStratum = LAST_STRATUM;

        void follow(long newTarget, long now) {
            startCorrection = started ? correctionAt(now) : newTarget;
            target = newTarget;
            since = now;
            started = true;
        }

        void remember(Election election, int leastStratum) {
            hullLow = election.hullLow;
            hullHigh = election.hullHigh;
            error = Math.max(target - hullLow, hullHigh - target);
            survivorBits = election.bits();
            ownStratum = leastStratum + 1;
        }

        long correctionAt(long now) {
            long step = Math.floorDiv(now - since, SLEW);
            if (Math.abs(target - startCorrection) <= step) {
                return target;
            }
            return target > startCorrection ? startCorrection + step : startCorrection - step;
        }

        long wrongAtMost(long now, int drift) {
            return error + growth(now - since, drift) + Math.abs(target - correctionAt(now));
        }
    }

    /** One lease; its holder and expiry mean nothing before it was granted. */
    private static final class Lease {
        boolean granted;
        int owner;
        long until;

        void give(int newOwner, long newUntil) {
            granted = true;
            owner = newOwner;
            until = newUntil;
        }
    }
}
