/** Promises 1 to 3: a new object, advance, hardware. */
public final class HardwareTest {
    private static final int[] SIZES_GIVEN = {Integer.MIN_VALUE, -1, 0, 1, 2, 3, 4, 5, 6, 7, Integer.MAX_VALUE};
    private static final int[] SIZES_DUE = {1, 1, 1, 1, 2, 3, 4, 5, 6, 6, 6};

    public static void main(String[] args) {
        numberOfServers();
        everyServerTakesPart();
        drift();
        self();
        noServerWasAsked();
        nothingFoundYet();
        hardwareTimeAtFirst();
        stepsThatAreTaken();
        stepsThatAreRefused();
        Due.end();
    }

    private static void numberOfServers() {
        Due.by("N is servers, but at least 1 and at most 6");
        for (int i = 0; i < SIZES_GIVEN.length; i++) {
            MajorityClock clock = new MajorityClock(SIZES_GIVEN[i], 0, 0);
            String made = "of " + SIZES_GIVEN[i] + " servers: ";
            for (int s = 0; s < 8; s++) {
                boolean there = s < SIZES_DUE[i];
                Due.is(made + "key(" + s + ", 1)", clock.key(s, 1) ? 1 : 0, there ? 1 : 0);
                Due.is(made + "tell(" + s + ", 1, 1, 0)", clock.tell(s, 1, 1, 0) ? 1 : 0, there ? 1 : 0);
                Due.is(made + "ask(" + s + ")", clock.ask(s), there ? s : Rig.NOTHING);
            }
        }
    }

    private static void everyServerTakesPart() {
        Due.by("N is servers, but at least 1 and at most 6");
        for (int i = 0; i < SIZES_GIVEN.length; i++) {
            MajorityClock clock = new MajorityClock(SIZES_GIVEN[i], 0, 0);
            int last = SIZES_DUE[i] - 1;
            clock.tell(last, 1, 1, 0);
            Rig.sample(clock, last, 3, 3, 0);
            Due.is("update() of " + SIZES_GIVEN[i] + " servers", clock.update(), 1);
            Due.is("survivors() of " + SIZES_GIVEN[i] + " servers", clock.survivors(), 1 << last);
        }
    }

    private static void drift() {
        Due.by("drift is drift, but at least 0 and at most 1000");
        int[] given = {Integer.MIN_VALUE, -1, 0, 1, 999, 1000, 1001, Integer.MAX_VALUE};
        int[] due = {0, 0, 0, 1, 999, 1000, 1000, 1000};
        for (int i = 0; i < given.length; i++) {
            MajorityClock clock = new MajorityClock(1, given[i], 7);
            clock.tell(0, 1, 1, 0);
            Rig.sample(clock, 0, 0, 0, 0);
            clock.update();
            clock.advance(1000000);
            Due.is("high(0) with drift " + given[i], clock.high(0), due[i]);
            Due.is("low(0) with drift " + given[i], clock.low(0), -due[i]);
            Due.is("bound() with drift " + given[i], clock.bound(), due[i]);
        }
    }

    private static void self() {
        Due.by("SELF is self");
        int[] selves = {Integer.MIN_VALUE, -1, 0, 1, 6, 7, Integer.MAX_VALUE};
        for (int self : selves) {
            MajorityClock clock = new MajorityClock(1, 0, self);
            Rig.sample(clock, 0, 0, 0, 0);
            clock.tell(0, 1, self, 0);
            Due.is("update() with the reference SELF " + self, clock.update(), 0);
            clock.tell(0, 1, self + 1, 0);
            Due.is("update() with the reference one above " + self, clock.update(), 1);
            clock.tell(0, 1, self - 1, 0);
            Due.is("update() with the reference one below " + self, clock.update(), 1);
        }
    }

    private static void noServerWasAsked() {
        Due.by("No server has been asked.");
        MajorityClock clock = new MajorityClock(6, 10, 5);
        for (int s = 0; s < 6; s++) {
            Due.is("reply to nothing", Rig.sealedReply(clock, s, 0, 0, 0), MajorityClock.BOGUS);
            Due.is("reply to -1", Rig.sealedReply(clock, s, -1, 0, 0), MajorityClock.BOGUS);
            Due.is("low(" + s + ")", clock.low(s), Rig.NOTHING);
            Due.is("high(" + s + ")", clock.high(s), Rig.NOTHING);
        }
        Due.is("the first stamp", clock.ask(1), 0);
    }

    private static void nothingFoundYet() {
        Due.by("A new object");
        MajorityClock clock = new MajorityClock(2, 10, 5);
        Due.is("update()", clock.update(), 0);
        Due.is("survivors()", clock.survivors(), 0);
        Due.is("hull(false)", clock.hull(false), Rig.NOTHING);
        Due.is("hull(true)", clock.hull(true), Rig.NOTHING);
        Due.is("stratum()", clock.stratum(), 16);
        Due.is("time()", clock.time(), Rig.NOTHING);
        Due.is("bound()", clock.bound(), Rig.NOTHING);
        for (int lease = 0; lease < 4; lease++) {
            Due.is("expiry(" + lease + ")", clock.expiry(lease), Rig.NOTHING);
            Due.is("holder(" + lease + ")", clock.holder(lease), -1);
        }
    }

    private static void hardwareTimeAtFirst() {
        Due.by("The HARDWARE TIME H is a number of ticks, 0 at first.");
        MajorityClock clock = new MajorityClock(3, 1000, 7);
        Due.is("hardware()", clock.hardware(), 0);
        Due.is("hardware() again", clock.hardware(), 0);
    }

    private static void stepsThatAreTaken() {
        Due.by("The hardware time goes on by n ticks: true");
        MajorityClock clock = new MajorityClock(1, 0, 0);
        int[] steps = {0, 1, 2, 999999, 1000000};
        long due = 0;
        for (int step : steps) {
            Due.yes("advance(" + step + ")", clock.advance(step));
            due += step;
            Due.is("hardware() after advance(" + step + ")", clock.hardware(), due);
        }
    }

    private static void stepsThatAreRefused() {
        Due.by("false when n is not 0 .. 1000000.");
        MajorityClock clock = new MajorityClock(1, 0, 0);
        clock.advance(1000000);
        int[] steps = {-1, 1000001, -1000000, Integer.MIN_VALUE, Integer.MAX_VALUE};
        for (int step : steps) {
            Due.no("advance(" + step + ")", clock.advance(step));
            Due.is("hardware() after advance(" + step + ")", clock.hardware(), 1000000);
        }
    }
}
