import java.math.BigInteger;
import java.util.ArrayList;
import java.util.Collections;
import java.util.Comparator;
import java.util.List;
import java.util.TreeSet;

/** The document's words again, written apart from the program and without a thought of cost. */
final class Model {
    private record Sample(long low, long high, long time) {
    }

    private record Span(int server, long low, long high) {
        long length() {
            return high - low;
        }

        boolean has(long number) {
            return low <= number && number <= high;
        }

        long middle() {
            return Math.floorDiv(low + high, 2L);
        }
    }

    private static final class Peer {
        long key = 0;
        Long pendingStamp = null;
        long pendingTime = 0;
        Long latestOrigin = null;
        final List<Sample> samples = new ArrayList<>();
        int stratum = 16;
        int reference = 0;
        int root = 0;
    }

    private record Update(long u, long c, long t, long lower, long upper, int bits, int stratum) {
    }

    private record Grant(int holder, long expiry) {
    }

    private final List<Peer> peers = new ArrayList<>();
    private final Grant[] grants = new Grant[4];
    private final int drift;
    private final int self;
    private long h = 0;
    private Long stampBefore = null;
    private Update latest = null;

    Model(int servers, int drift, int self) {
        int n = servers < 1 ? 1 : servers > 6 ? 6 : servers;
        for (int i = 0; i < n; i++) {
            peers.add(new Peer());
        }
        this.drift = drift < 0 ? 0 : drift > 1000 ? 1000 : drift;
        this.self = self;
    }

    private boolean isServer(int s) {
        return s >= 0 && s < peers.size();
    }

    private boolean isLease(int lease) {
        return lease >= 0 && lease <= 3;
    }

    private long growth(long n) {
        BigInteger[] parts = BigInteger.valueOf(n).multiply(BigInteger.valueOf(drift))
                .divideAndRemainder(BigInteger.valueOf(1000000));
        return parts[0].longValueExact() + (parts[1].signum() > 0 ? 1 : 0);
    }

    boolean advance(int n) {
        if (n >= 0 && n <= 1000000) {
            h += n;
            return true;
        }
        return false;
    }

    long hardware() {
        return h;
    }

    boolean key(int s, long k) {
        if (isServer(s)) {
            peers.get(s).key = k;
        }
        return isServer(s);
    }

    int seal(int s, long origin, long received, long sent) {
        if (!isServer(s)) {
            return 0;
        }
        BigInteger all = BigInteger.TWO.pow(64);
        BigInteger hash = BigInteger.valueOf(peers.get(s).key).mod(all);
        for (long part : List.of(origin, received, sent)) {
            hash = hash.xor(BigInteger.valueOf(part).mod(all));
            hash = hash.multiply(new BigInteger("9E3779B97F4A7C15", 16)).mod(all);
            hash = hash.xor(hash.shiftRight(29));
        }
        return hash.shiftRight(32).intValue();
    }

    long ask(int s) {
        if (!isServer(s)) {
            return MajorityClock.NOTHING;
        }
        long stamp = stampBefore != null && stampBefore >= h ? stampBefore + 1 : h;
        stampBefore = stamp;
        peers.get(s).pendingStamp = stamp;
        peers.get(s).pendingTime = h;
        return stamp;
    }

    int reply(int s, long origin, long received, long sent, int seal) {
        if (!isServer(s)) {
            return -1;
        }
        Peer peer = peers.get(s);
        long most = 1099511627776L;
        if (received < 0 || received > most || sent < 0 || sent > most || received > sent) {
            return -2;
        }
        if (seal(s, origin, received, sent) != seal) {
            return -3;
        }
        if (peer.latestOrigin != null && peer.latestOrigin == origin) {
            return -4;
        }
        if (peer.pendingStamp == null || peer.pendingStamp != origin) {
            return -5;
        }
        if (sent - received > h - peer.pendingTime) {
            return -6;
        }
        peer.samples.add(new Sample(sent - h, received - peer.pendingTime, h));
        if (peer.samples.size() == 9) {
            peer.samples.remove(0);
        }
        peer.pendingStamp = null;
        peer.latestOrigin = origin;
        return peer.samples.size();
    }

    boolean tell(int s, int stratum, int reference, int root) {
        boolean right = isServer(s) && stratum > 0 && stratum < 17 && root > -1 && root < 1000001;
        if (right) {
            peers.get(s).stratum = stratum;
            peers.get(s).reference = reference;
            peers.get(s).root = root;
        }
        return right;
    }

    private Span intervalOf(int s) {
        if (!isServer(s) || peers.get(s).samples.isEmpty()) {
            return null;
        }
        List<Span> spans = new ArrayList<>();
        for (Sample sample : peers.get(s).samples) {
            long wider = peers.get(s).root + growth(h - sample.time());
            spans.add(new Span(s, sample.low() - wider, sample.high() + wider));
        }
        Collections.reverse(spans);
        spans.sort(Comparator.comparingLong(Span::length));
        return spans.get(0);
    }

    long low(int s) {
        Span span = intervalOf(s);
        return span == null ? MajorityClock.NOTHING : span.low();
    }

    long high(int s) {
        Span span = intervalOf(s);
        return span == null ? MajorityClock.NOTHING : span.high();
    }

    private List<Span> usable() {
        List<Span> spans = new ArrayList<>();
        for (int s = 0; s < peers.size(); s++) {
            Peer peer = peers.get(s);
            int last = peer.samples.size() - 1;
            if (peer.stratum <= 14 && peer.reference != self && last >= 0
                    && h - peer.samples.get(last).time() <= 1000000) {
                spans.add(intervalOf(s));
            }
        }
        return spans;
    }

    /** All numbers between the outermost ends when they are few, otherwise the ends and their neighbours. */
    private static TreeSet<Long> numbersToLookAt(List<Span> spans) {
        TreeSet<Long> numbers = new TreeSet<>();
        for (Span span : spans) {
            for (long d = -1; d <= 1; d++) {
                numbers.add(span.low() + d);
                numbers.add(span.high() + d);
            }
        }
        long first = numbers.first();
        long last = numbers.last();
        if (last - first < 3000) {
            for (long x = first; x <= last; x++) {
                numbers.add(x);
            }
        }
        return numbers;
    }

    private static TreeSet<Long> sharedBy(List<Span> spans, int least) {
        TreeSet<Long> shared = new TreeSet<>();
        for (long x : numbersToLookAt(spans)) {
            if (spans.stream().filter(span -> span.has(x)).count() >= least) {
                shared.add(x);
            }
        }
        return shared;
    }

    private static Span theOneThatLeaves(List<Span> left) {
        Span leaves = null;
        long greatest = -1;
        for (int i = left.size() - 1; i >= 0; i--) {
            long middle = left.get(i).middle();
            long sum = left.stream().mapToLong(other -> Math.abs(other.middle() - middle)).sum();
            if (sum > greatest) {
                greatest = sum;
                leaves = left.get(i);
            }
        }
        return leaves;
    }

    int update() {
        List<Span> left = usable();
        int m = left.size();
        if (m == 0) {
            return 0;
        }
        TreeSet<Long> shared = new TreeSet<>();
        for (int f = 0; 2 * f < m && shared.isEmpty(); f++) {
            shared = sharedBy(left, m - f);
        }
        if (shared.isEmpty()) {
            return -1;
        }
        long lower = shared.first();
        long upper = shared.last();
        left.removeIf(span -> Math.max(span.low(), lower) > Math.min(span.high(), upper));
        while (left.size() > 3) {
            left.remove(theOneThatLeaves(left));
        }
        long sum = left.stream().mapToLong(Span::middle).sum();
        long target = Math.floorDiv(sum, (long) left.size());
        target = target < lower ? lower : target > upper ? upper : target;
        int bits = left.stream().mapToInt(span -> 1 << span.server()).sum();
        int stratum = left.stream().mapToInt(span -> peers.get(span.server()).stratum).min().getAsInt();
        latest = new Update(h, latest == null ? target : correction(), target, lower, upper, bits, stratum + 1);
        return left.size();
    }

    private long correction() {
        long n = (h - latest.u()) / 16;
        long up = latest.c() + n;
        long down = latest.c() - n;
        if (latest.t() >= down && latest.t() <= up) {
            return latest.t();
        }
        return latest.t() > up ? up : down;
    }

    int survivors() {
        return latest == null ? 0 : latest.bits();
    }

    long hull(boolean upper) {
        return latest == null ? MajorityClock.NOTHING : upper ? latest.upper() : latest.lower();
    }

    int stratum() {
        return latest == null ? 16 : latest.stratum();
    }

    long time() {
        return latest == null ? MajorityClock.NOTHING : h + correction();
    }

    long bound() {
        if (latest == null) {
            return MajorityClock.NOTHING;
        }
        long error = Math.max(latest.t() - latest.lower(), latest.upper() - latest.t());
        return error + growth(h - latest.u()) + Math.abs(correction() - latest.t());
    }

    long grant(int lease, int holder, int duration) {
        if (!isLease(lease) || holder < 0 || duration < 1 || duration > 1000000 || latest == null) {
            return MajorityClock.NOTHING;
        }
        Grant present = grants[lease];
        long expiry = time() + duration;
        boolean over = present != null && time() - bound() >= present.expiry();
        if (present != null && present.holder() != holder && !over) {
            return MajorityClock.NOTHING;
        }
        if (present != null && present.holder() == holder && expiry < present.expiry()) {
            return MajorityClock.NOTHING;
        }
        grants[lease] = new Grant(holder, expiry);
        return expiry;
    }

    boolean holds(int lease, int holder, long reading, long bound) {
        long t40 = 1099511627776L;
        return isLease(lease) && grants[lease] != null && grants[lease].holder() == holder
                && bound >= 0 && bound <= t40 && reading >= -t40 && reading <= 2 * t40
                && reading + bound < grants[lease].expiry();
    }

    long expiry(int lease) {
        return isLease(lease) && grants[lease] != null ? grants[lease].expiry() : MajorityClock.NOTHING;
    }

    int holder(int lease) {
        return isLease(lease) && grants[lease] != null ? grants[lease].holder() : -1;
    }
}
