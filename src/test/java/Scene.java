import java.util.ArrayList;
import java.util.List;

/**
 * A clock whose every part holds something, and a tale that brings every part to light. Two scenes
 * of one kind tell the same, unless a call on one of them changed something.
 */
final class Scene {
    enum Kind { NEW, SAMPLED, SERVING, SERVING_UNUSABLE, SERVING_APART }

    private static final int SERVERS = 3;

    final MajorityClock clock = new MajorityClock(SERVERS, 1000, Rig.SELF);
    /** By server: the stamp of its pending request and the origin of its latest accepted reply, if any. */
    final long[] pending = {7, 7, 7};
    final long[] accepted = {7, 7, 7};
    private final List<String> told = new ArrayList<>();

    Scene(Kind kind) {
        if (kind != Kind.NEW) {
            makeSamples();
        }
        if (kind.compareTo(Kind.SERVING) >= 0) {
            serve();
        }
        if (kind == Kind.SERVING_UNUSABLE) {
            clock.tell(0, 15, 1, 4);
            clock.tell(1, 5, Rig.SELF, 6);
        }
        if (kind == Kind.SERVING_APART) {
            sample(1, 5000, 5000, 0);
        }
    }

    /** Server 0 gets eight samples, the oldest the shortest; server 1 one; server 2 is only asked. */
    private void makeSamples() {
        for (int s = 0; s < SERVERS; s++) {
            clock.key(s, 11 * (s + 1));
            clock.tell(s, 3 + s, 1 + s, 4 + 2 * s);
        }
        clock.advance(20000);
        for (int i = 1; i <= 8; i++) {
            sample(0, 1000 - 50 * i, 1000 + 50 * i, 2000);
        }
        sample(1, 900, 1100, 200);
        pending[2] = clock.ask(2);
        pending[0] = clock.ask(0);
        // Long enough for the replies to these to be no shorter than the samples there are.
        clock.advance(3000);
    }

    /** Serves a time that is on its way to its target; leases 0 and 3 run, lease 1 is over. */
    private void serve() {
        clock.update();
        sample(1, 1040, 1060, 20);
        clock.update();
        clock.grant(0, 1, 1000000);
        clock.grant(1, 2, 1);
        clock.advance(90);
        clock.grant(3, 3, 200);
    }

    private int sample(int s, long low, long high, int ticks) {
        long start = clock.hardware();
        long origin = clock.ask(s);
        clock.advance(ticks);
        int answer = Rig.sealedReply(clock, s, origin, start + high, start + ticks + low);
        accepted[s] = origin;
        return answer;
    }

    List<String> tale() {
        lookAtAll();
        clock.advance(16);
        lookAtTime();
        for (int s = 0; s < SERVERS; s++) {
            long now = clock.hardware();
            tell("the latest origin of " + s + " again", Rig.sealedReply(clock, s, accepted[s], now, now));
            tell("the pending request of " + s, Rig.sealedReply(clock, s, pending[s], now + 900, now + 900));
            tell("ask(" + s + ")", clock.ask(s));
        }
        lookAtAll();
        tryLeases(20);
        tell("update()", clock.update());
        lookAtAll();
        sample(2, 900, 1100, 300);
        tell("update()", clock.update());
        lookAtAll();
        for (int i = 0; i < 8; i++) {
            tell("one more sample of 0", sample(0, -1000, 3000, 4000));
            lookAtInterval(0);
        }
        tryLeases(300000);
        return told;
    }

    private void tell(String call, long answer) {
        told.add(call + " " + answer);
    }

    private void lookAtAll() {
        tell("hardware()", clock.hardware());
        for (int s = 0; s < SERVERS; s++) {
            tell("seal(" + s + ", 1, 2, 3)", clock.seal(s, 1, 2, 3));
            lookAtInterval(s);
        }
        tell("survivors()", clock.survivors());
        tell("hull(false)", clock.hull(false));
        tell("hull(true)", clock.hull(true));
        tell("stratum()", clock.stratum());
        lookAtTime();
        for (int lease = 0; lease < 4; lease++) {
            tell("holder(" + lease + ")", clock.holder(lease));
            tell("expiry(" + lease + ")", clock.expiry(lease));
        }
    }

    private void lookAtInterval(int s) {
        tell("low(" + s + ")", clock.low(s));
        tell("high(" + s + ")", clock.high(s));
    }

    private void lookAtTime() {
        tell("time()", clock.time());
        tell("bound()", clock.bound());
    }

    private void tryLeases(int duration) {
        for (int lease = 0; lease < 4; lease++) {
            tell("holds(" + lease + ", 1, 0, 0)", clock.holds(lease, 1, 0, 0) ? 1 : 0);
            tell("grant(" + lease + ", 1, ..)", clock.grant(lease, 1, duration));
            tell("grant(" + lease + ", 2, ..)", clock.grant(lease, 2, duration));
        }
    }
}
