/** Promise 8: tell. */
public final class TellTest {
    private static final int[] NO_SERVERS = {-1, 2, 3, 6, Integer.MAX_VALUE, Integer.MIN_VALUE};

    public static void main(String[] args) {
        toldOfOneServerFromNowOn();
        valuesAtFirst();
        toldOfNoServer();
        edgesOfTheStratum();
        edgesOfTheRoot();
        anyReference();
        Due.end();
    }

    /** A clock of two servers, both with the sample 0 .. 0, the first told 3, 1, 50. */
    private static MajorityClock told() {
        MajorityClock clock = new MajorityClock(2, 0, Rig.SELF);
        Rig.samplesForAll(clock, Rig.row(0, 0), Rig.row(0, 0), 0);
        clock.tell(0, 3, 1, 50);
        return clock;
    }

    private static void isAsBefore(String after, MajorityClock clock) {
        Due.is("low(0) after " + after, clock.low(0), -50);
        Due.is("high(0) after " + after, clock.high(0), 50);
        Due.is("low(1) after " + after, clock.low(1), 0);
        Due.is("update() after " + after, clock.update(), 1);
        Due.is("survivors() after " + after, clock.survivors(), 1);
        Due.is("stratum() after " + after, clock.stratum(), 4);
    }

    private static void toldOfOneServerFromNowOn() {
        Due.by("Server s has this stratum, reference and root from now on: true");
        MajorityClock clock = told();
        isAsBefore("the first", clock);
        Due.yes("tell(1, 2, 1, 7)", clock.tell(1, 2, 1, 7));
        Due.is("high(1)", clock.high(1), 7);
        Due.is("high(0) still", clock.high(0), 50);
        Due.is("update()", clock.update(), 2);
        Due.is("stratum()", clock.stratum(), 3);
        Due.yes("tell(1, 2, SELF, 7)", clock.tell(1, 2, Rig.SELF, 7));
        Due.is("update() without the one that follows us", clock.update(), 1);
        Rig.sample(clock, 0, 5, 5, 0);
        Due.is("high(0): what was told stays for new samples", clock.high(0), 55);
    }

    private static void valuesAtFirst() {
        Due.by("a STRATUM (16 at first), a REFERENCE (0 at first) and a ROOT (0 at first)");
        MajorityClock clock = new MajorityClock(1, 0, Rig.SELF);
        Rig.sample(clock, 0, 3, 3, 0);
        Due.is("low(0) with the root at first", clock.low(0), 3);
        Due.is("high(0) with the root at first", clock.high(0), 3);
        Due.is("update() with the stratum at first", clock.update(), 0);
        Due.yes("tell(0, 14, 0, 0)", clock.tell(0, 14, 0, 0));
        Due.is("update() with the reference 0", clock.update(), 1);
    }

    private static void toldOfNoServer() {
        Due.by("false when there is no such server");
        for (int s : NO_SERVERS) {
            MajorityClock clock = told();
            Due.no("tell(" + s + ", 1, SELF, 9)", clock.tell(s, 1, Rig.SELF, 9));
            isAsBefore("tell(" + s + ", 1, SELF, 9)", clock);
        }
        Due.yes("tell(0, ..)", told().tell(0, 1, 1, 9));
        Due.yes("tell(1, ..)", told().tell(1, 1, 1, 9));
    }

    private static void edgesOfTheStratum() {
        Due.by("the stratum is not 1 .. 16");
        int[] wrong = {0, 17, -1, 18, -16, Integer.MAX_VALUE, Integer.MIN_VALUE};
        for (int stratum : wrong) {
            MajorityClock clock = told();
            Due.no("tell(0, " + stratum + ", SELF, 9)", clock.tell(0, stratum, Rig.SELF, 9));
            isAsBefore("tell(0, " + stratum + ", SELF, 9)", clock);
        }
        for (int stratum = 1; stratum <= 16; stratum++) {
            MajorityClock clock = told();
            Due.yes("tell(0, " + stratum + ", 1, 9)", clock.tell(0, stratum, 1, 9));
            Due.is("high(0) after stratum " + stratum, clock.high(0), 9);
            Due.is("update() with stratum " + stratum, clock.update(), stratum < 15 ? 1 : 0);
        }
    }

    private static void edgesOfTheRoot() {
        Due.by("or the root is not 0 .. 1000000.");
        int[] wrong = {-1, 1000001, -50, Integer.MAX_VALUE, Integer.MIN_VALUE};
        for (int root : wrong) {
            MajorityClock clock = told();
            Due.no("tell(0, 2, SELF, " + root + ")", clock.tell(0, 2, Rig.SELF, root));
            isAsBefore("tell(0, 2, SELF, " + root + ")", clock);
        }
        int[] right = {0, 1, 999999, 1000000};
        for (int root : right) {
            MajorityClock clock = told();
            Due.yes("tell(0, 2, 1, " + root + ")", clock.tell(0, 2, 1, root));
            Due.is("high(0) with root " + root, clock.high(0), root);
            Due.is("low(0) with root " + root, clock.low(0), -root);
        }
    }

    private static void anyReference() {
        Due.by("Server s has this stratum, reference and root from now on: true");
        int[] any = {Integer.MIN_VALUE, -1, 0, 16, 17, Rig.SELF - 1, Rig.SELF, Rig.SELF + 1, Integer.MAX_VALUE};
        for (int reference : any) {
            MajorityClock clock = told();
            Due.yes("tell(0, 2, " + reference + ", 0)", clock.tell(0, 2, reference, 0));
            Due.is("update() with reference " + reference, clock.update(), reference == Rig.SELF ? 0 : 1);
        }
    }
}
