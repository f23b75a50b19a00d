import java.util.List;
import java.util.function.ToLongFunction;

/** "A call that is refused changes nothing": each kind of refusal of each call, in several states. */
public final class RefusedCallsTest {
    private static final int LEAST = Integer.MIN_VALUE;
    private static final int GREATEST = Integer.MAX_VALUE;
    private static final long LATEST = 1L << 40;
    private static final int[] NO_SERVERS = {-1, 3, 6, LEAST, GREATEST};
    private static final Scene.Kind[] SAMPLED_OR_MORE = {Scene.Kind.SAMPLED, Scene.Kind.SERVING,
        Scene.Kind.SERVING_UNUSABLE, Scene.Kind.SERVING_APART};

    public static void main(String[] args) {
        sceneHoldsSomethingEverywhere();
        advance();
        key();
        ask();
        tellOfNoServer();
        tellWrongThings();
        replyOfNoServer();
        malformed();
        forged();
        duplicate();
        bogus();
        hasty();
        updateWithoutUsableServers();
        updateWithoutMajority();
        grantOfWrongThings();
        grantBeforeTheFirstUpdate();
        grantToAnother();
        grantThatShortens();
        callsThatOnlyTell();
        Due.end();
    }

    /** Makes the call on one of two scenes of a kind and compares all that both tell afterwards. */
    private static void refused(String call, Scene.Kind kind, long due, ToLongFunction<Scene> made) {
        Scene one = new Scene(kind);
        Scene other = new Scene(kind);
        Due.is(call + " when " + kind, made.applyAsLong(one), due);
        sameTale(call + " when " + kind, one.tale(), other.tale());
    }

    private static void sameTale(String after, List<String> one, List<String> other) {
        for (int i = 0; i < other.size() && !Due.anyWrong(); i++) {
            Due.same("after " + after + ": answer " + i, one.get(i), other.get(i));
        }
    }

    /** What the scenes are meant to be: otherwise the other tests here would compare little. */
    private static void sceneHoldsSomethingEverywhere() {
        Due.by("(the scenes of this test)");
        Scene scene = new Scene(Scene.Kind.SERVING);
        MajorityClock clock = scene.clock;
        Due.is("survivors()", clock.survivors(), 3);
        Due.yes("on the way", clock.time() != clock.hardware() + 1034 && clock.bound() > 30);
        Due.is("over", clock.grant(1, 9, 1), clock.time() + 1);
        Due.is("not over", clock.grant(3, 9, 1), Rig.NOTHING);
        Due.is("not granted", clock.holder(2), -1);
        Due.is("pending at 0", Rig.sealedReply(clock, 0, scene.pending[0], 30000, 30000), 8);
        Due.is("pending at 2", Rig.sealedReply(clock, 2, scene.pending[2], 30000, 30000), 1);
        Due.is("accepted at 1", Rig.sealedReply(clock, 1, scene.accepted[1], 0, 0), MajorityClock.DUPLICATE);
    }

    private static void advance() {
        Due.by("false when n is not 0 .. 1000000. / A call that is refused changes nothing.");
        for (int n : new int[] {-1, 1000001, LEAST, GREATEST}) {
            for (Scene.Kind kind : Scene.Kind.values()) {
                refused("advance(" + n + ")", kind, 0, on -> on.clock.advance(n) ? 1 : 0);
            }
        }
    }

    private static void key() {
        Due.by("false when there is no such server. / A call that is refused changes nothing.");
        for (int s : NO_SERVERS) {
            for (Scene.Kind kind : Scene.Kind.values()) {
                refused("key(" + s + ", 5)", kind, 0, on -> on.clock.key(s, 5) ? 1 : 0);
            }
        }
    }

    private static void ask() {
        Due.by("NOTHING when there is no such server. / A call that is refused changes nothing.");
        for (int s : NO_SERVERS) {
            for (Scene.Kind kind : Scene.Kind.values()) {
                refused("ask(" + s + ")", kind, Rig.NOTHING, on -> on.clock.ask(s));
            }
        }
    }

    private static void tellOfNoServer() {
        Due.by("false when there is no such server / A call that is refused changes nothing.");
        for (int s : NO_SERVERS) {
            for (Scene.Kind kind : Scene.Kind.values()) {
                refused("tell(" + s + ", ..)", kind, 0, on -> on.clock.tell(s, 1, Rig.SELF, 500) ? 1 : 0);
            }
        }
    }

    private static void tellWrongThings() {
        Due.by("the stratum is not 1 .. 16, or the root is not 0 .. 1000000. / A call that is refused changes nothing.");
        int[][] wrong = {{0, 500}, {17, 500}, {LEAST, 500}, {GREATEST, 500},
            {1, -1}, {1, 1000001}, {1, LEAST}, {1, GREATEST}, {0, -1}, {17, 1000001}};
        for (int[] w : wrong) {
            for (Scene.Kind kind : Scene.Kind.values()) {
                for (int s = 0; s < 2; s++) {
                    int server = s;
                    refused("tell(" + s + ", " + w[0] + ", SELF, " + w[1] + ")", kind, 0,
                            on -> on.clock.tell(server, w[0], Rig.SELF, w[1]) ? 1 : 0);
                    refused("tell(" + s + ", " + w[0] + ", 1, " + w[1] + ")", kind, 0,
                            on -> on.clock.tell(server, w[0], 1, w[1]) ? 1 : 0);
                }
            }
        }
    }

    private static void replyOfNoServer() {
        Due.by("UNKNOWN there is no such server / A call that is refused changes nothing.");
        for (int s : NO_SERVERS) {
            for (Scene.Kind kind : SAMPLED_OR_MORE) {
                refused("reply of " + s, kind, MajorityClock.UNKNOWN,
                        on -> on.clock.reply(s, on.pending[0], 0, 0, on.clock.seal(0, on.pending[0], 0, 0)));
            }
        }
    }

    private static void malformed() {
        Due.by("MALFORMED received or sent is not 0 .. 2^40, or received is greater than sent / A call that is refused changes nothing.");
        long[][] wrong = {{-1, 0}, {1, 0}, {LATEST, LATEST + 1}, {LATEST + 1, LATEST + 1}, {-1, -1}};
        for (long[] w : wrong) {
            for (Scene.Kind kind : SAMPLED_OR_MORE) {
                refused("reply with " + w[0] + ", " + w[1], kind, MajorityClock.MALFORMED,
                        on -> Rig.sealedReply(on.clock, 0, on.pending[0], w[0], w[1]));
                refused("first reply with " + w[0] + ", " + w[1], kind, MajorityClock.MALFORMED,
                        on -> Rig.sealedReply(on.clock, 2, on.pending[2], w[0], w[1]));
            }
        }
    }

    private static void forged() {
        Due.by("FORGED the seal is not that of origin, received, sent under the server's key / A call that is refused changes nothing.");
        for (Scene.Kind kind : SAMPLED_OR_MORE) {
            for (int s = 0; s < 3; s += 2) {
                int server = s;
                refused("reply of " + s, kind, MajorityClock.FORGED, on -> on.clock.reply(server, on.pending[server],
                        30000, 30000, on.clock.seal(server, on.pending[server], 30000, 30000) + 1));
            }
        }
    }

    private static void duplicate() {
        Due.by("DUPLICATE there was an accepted reply of s, and the origin is that of the latest one / A call that is refused changes nothing.");
        for (Scene.Kind kind : SAMPLED_OR_MORE) {
            for (int s = 0; s < 2; s++) {
                int server = s;
                refused("reply of " + s, kind, MajorityClock.DUPLICATE,
                        on -> Rig.sealedReply(on.clock, server, on.accepted[server], 30000, 30000));
            }
        }
    }

    private static void bogus() {
        Due.by("BOGUS s has no pending request, or the origin is not its stamp / A call that is refused changes nothing.");
        for (Scene.Kind kind : SAMPLED_OR_MORE) {
            refused("reply without a request", kind, MajorityClock.BOGUS,
                    on -> Rig.sealedReply(on.clock, 1, on.accepted[1] + 1, 30000, 30000));
            refused("reply one above the stamp", kind, MajorityClock.BOGUS,
                    on -> Rig.sealedReply(on.clock, 0, on.pending[0] + 1, 30000, 30000));
            refused("reply one below the stamp", kind, MajorityClock.BOGUS,
                    on -> Rig.sealedReply(on.clock, 0, on.pending[0] - 1, 30000, 30000));
            refused("first reply one above the stamp", kind, MajorityClock.BOGUS,
                    on -> Rig.sealedReply(on.clock, 2, on.pending[2] + 1, 30000, 30000));
        }
        refused("reply when nothing was asked", Scene.Kind.NEW, MajorityClock.BOGUS,
                on -> Rig.sealedReply(on.clock, 0, 0, 0, 0));
    }

    private static void hasty() {
        Due.by("HASTY sent - received is more than H - t / A call that is refused changes nothing.");
        for (Scene.Kind kind : SAMPLED_OR_MORE) {
            for (int s = 0; s < 3; s += 2) {
                int server = s;
                refused("reply of " + s, kind, MajorityClock.HASTY,
                        on -> Rig.sealedReply(on.clock, server, on.pending[server], 30000, 40000));
            }
        }
    }

    private static void updateWithoutUsableServers() {
        Due.by("0 when no server is usable .. in these two cases nothing changes.");
        refused("update()", Scene.Kind.NEW, 0, on -> on.clock.update());
        refused("update()", Scene.Kind.SERVING_UNUSABLE, 0, on -> on.clock.update());
    }

    private static void updateWithoutMajority() {
        Due.by("-1 when there is no majority: in these two cases nothing changes.");
        refused("update()", Scene.Kind.SERVING_APART, -1, on -> on.clock.update());
    }

    private static void grantOfWrongThings() {
        Due.by("NOTHING, refused, when there is no such lease, holder is below 0, duration is not 1 .. 1000000");
        int[][] wrong = {{-1, 1, 500}, {4, 1, 500}, {LEAST, 1, 500}, {GREATEST, 1, 500}};
        for (int[] w : wrong) {
            refusedGrant(w[0], w[1], w[2]);
        }
        for (int lease = 0; lease < 4; lease++) {
            refusedGrant(lease, -1, 500);
            refusedGrant(lease, LEAST, 500);
            for (int holder = 1; holder <= 3; holder++) {
                refusedGrant(lease, holder, 0);
                refusedGrant(lease, holder, -1);
                refusedGrant(lease, holder, 1000001);
                refusedGrant(lease, holder, GREATEST);
                refusedGrant(lease, holder, LEAST);
            }
        }
    }

    private static void refusedGrant(int lease, int holder, int duration) {
        refused("grant(" + lease + ", " + holder + ", " + duration + ")", Scene.Kind.SERVING, Rig.NOTHING,
                on -> on.clock.grant(lease, holder, duration));
    }

    private static void grantBeforeTheFirstUpdate() {
        Due.by("no update found survivors yet / A call that is refused changes nothing.");
        for (int lease = 0; lease < 4; lease++) {
            int some = lease;
            refused("grant(" + lease + ", 1, 500)", Scene.Kind.NEW, Rig.NOTHING, on -> on.clock.grant(some, 1, 500));
            refused("grant(" + lease + ", 1, 500)", Scene.Kind.SAMPLED, Rig.NOTHING,
                    on -> on.clock.grant(some, 1, 500));
        }
    }

    private static void grantToAnother() {
        Due.by("its holder is another one and it is not over / A call that is refused changes nothing.");
        refusedGrant(0, 2, 1000000);
        refusedGrant(0, 0, 1);
        refusedGrant(3, 2, 1000000);
        refusedGrant(3, GREATEST, 200);
    }

    private static void grantThatShortens() {
        Due.by("its holder is the same one and the new expiry would be below the present one / A call that is refused changes nothing.");
        refusedGrant(0, 1, 1);
        refusedGrant(0, 1, 999900);
        refusedGrant(3, 3, 199);
        refusedGrant(3, 3, 1);
    }

    private static void callsThatOnlyTell() {
        Due.by("(calls of which the document tells no change)");
        for (Scene.Kind kind : Scene.Kind.values()) {
            Scene one = new Scene(kind);
            Scene other = new Scene(kind);
            for (int i = -1; i <= 6; i++) {
                one.clock.seal(i, 5, 6, 7);
                one.clock.low(i);
                one.clock.high(i);
                one.clock.holds(i, 1, 5, 5);
                one.clock.holds(i, -1, Long.MAX_VALUE, Long.MAX_VALUE);
                one.clock.expiry(i);
                one.clock.holder(i);
            }
            one.clock.hardware();
            one.clock.survivors();
            one.clock.hull(false);
            one.clock.hull(true);
            one.clock.stratum();
            one.clock.time();
            one.clock.bound();
            sameTale("calls that only tell, when " + kind, one.tale(), other.tale());
        }
    }
}
