/** Promises 11 to 14: update, survivors, hull, stratum. */
public final class UpdatesTest {
    /** By the number of usable servers: how many of them must share a number. */
    private static final int[] MAJORITY = {0, 1, 2, 2, 3, 3, 4};

    public static void main(String[] args) {
        usableByStratum();
        usableByReference();
        usableBySamples();
        usableByAge();
        ageIsThatOfTheLatestSample();
        noUsableServer();
        oneServerAlone();
        majorityOfEveryNumber();
        endsAreIncluded();
        noGreaterFIsLookedAt();
        orMoreServers();
        hullFromTheLeastToTheGreatest();
        unusableOnesDoNotCount();
        onlyThoseAtTheHullAreLeft();
        threeStayFourDoNot();
        farthestLeaveOneByOne();
        amongEqualOnesTheHighestNumberLeaves();
        middlesAreRoundedDown();
        failedUpdateChangesNothing();
        survivorsBeforeAnyWereFound();
        hullBeforeAnyWereFound();
        stratumBeforeAnyWereFound();
        stratumIsThatOfTheSurvivors();
        edgesOfTheOwnStratum();
        Due.end();
    }

    private static void found(String when, MajorityClock clock, int bits, long lower, long upper) {
        Due.is("update() " + when, clock.update(), Integer.bitCount(bits));
        Due.is("survivors() " + when, clock.survivors(), bits);
        Due.is("hull(false) " + when, clock.hull(false), lower);
        Due.is("hull(true) " + when, clock.hull(true), upper);
    }

    private static void usableByStratum() {
        Due.by("A server is USABLE when its stratum is 1 .. 14");
        for (int stratum = 1; stratum <= 16; stratum++) {
            MajorityClock clock = Rig.withIntervals(Rig.row(0), Rig.row(4));
            clock.tell(0, stratum, 1, 0);
            Due.is("update() with stratum " + stratum, clock.update(), stratum <= 14 ? 1 : 0);
        }
        MajorityClock clock = Rig.withIntervals(Rig.row(0, 1), Rig.row(4, 5));
        clock.tell(0, 14, 1, 0);
        clock.tell(1, 15, 1, 0);
        found("14 takes part, 15 does not", clock, 1, 0, 4);
    }

    private static void usableByReference() {
        Due.by("its reference is not SELF");
        MajorityClock clock = Rig.withIntervals(Rig.row(0, 100, 0), Rig.row(4, 104, 4));
        clock.tell(1, 1, Rig.SELF, 0);
        found("without the one that follows us", clock, 5, 0, 4);
        for (int s = 0; s < 3; s++) {
            clock.tell(s, 1, Rig.SELF, 0);
        }
        Due.is("update() when all follow us", clock.update(), 0);
        clock.tell(1, 1, Rig.SELF + 1, 0);
        found("with a reference one above SELF", clock, 2, 100, 104);
        clock.tell(1, 1, Rig.SELF - 1, 0);
        found("with a reference one below SELF", clock, 2, 100, 104);
    }

    private static void usableBySamples() {
        Due.by("it has samples");
        MajorityClock clock = new MajorityClock(3, 0, Rig.SELF);
        for (int s = 0; s < 3; s++) {
            clock.tell(s, 1, 1, 0);
        }
        clock.ask(0);
        Due.is("update() when none has samples", clock.update(), 0);
        Rig.sample(clock, 1, 3, 3, 10);
        found("without those that have no samples", clock, 2, 3, 3);
    }

    private static void usableByAge() {
        Due.by("and the latest of them is at most 1000000 ticks old");
        MajorityClock clock = Rig.withIntervals(Rig.row(0), Rig.row(4));
        clock.advance(999999);
        Due.is("update() with a sample 999999 old", clock.update(), 1);
        clock.advance(1);
        Due.is("update() with a sample 1000000 old", clock.update(), 1);
        clock.advance(1);
        Due.is("update() with a sample 1000001 old", clock.update(), 0);
        clock.advance(1000000);
        Due.is("update() with a much older sample", clock.update(), 0);
    }

    private static void ageIsThatOfTheLatestSample() {
        Due.by("and the latest of them is at most 1000000 ticks old");
        MajorityClock clock = Rig.withIntervals(Rig.row(0), Rig.row(4));
        clock.advance(1000000);
        Rig.sample(clock, 0, 50, 90, 100);
        found("the latest is young, the shortest old", clock, 1, 0, 4);
        clock.advance(1000000);
        found("the latest is 1000000 old", clock, 1, 0, 4);
        clock.advance(1);
        Due.is("update() with the latest 1000001 old", clock.update(), 0);
    }

    private static void noUsableServer() {
        Due.by("0 when no server is usable");
        MajorityClock clock = new MajorityClock(6, 0, Rig.SELF);
        Due.is("update() of a new object", clock.update(), 0);
        for (int s = 0; s < 6; s++) {
            Rig.sample(clock, s, 1000 * s, 1000 * s, 0);
        }
        Due.is("update() of servers that disagree, but have stratum 16", clock.update(), 0);
        clock.tell(5, 1, 1, 0);
        Due.is("update() with one usable", clock.update(), 1);
        clock.tell(4, 1, 1, 0);
        Due.is("update() with two that disagree", clock.update(), -1);
        clock.tell(4, 15, 1, 0);
        clock.tell(5, 15, 1, 0);
        Due.is("update() with none again", clock.update(), 0);
    }

    private static void oneServerAlone() {
        Due.by("Let the usable servers be m in number, m above 0.");
        MajorityClock clock = Rig.withIntervals(Rig.row(-7), Rig.row(4));
        found("with one server", clock, 1, -7, 4);
        Due.is("time()", clock.time(), clock.hardware() - 2);
        Due.is("bound()", clock.bound(), 6);
    }

    /** Of m servers the last k share 0 .. 9, the others stand alone. */
    private static MajorityClock withSharing(int m, int k) {
        long[] lows = new long[m];
        long[] highs = new long[m];
        for (int s = 0; s < m; s++) {
            lows[s] = s < m - k ? 100 * (s + 1) : 0;
            highs[s] = lows[s] + 9;
        }
        return Rig.withIntervals(lows, highs);
    }

    private static void majorityOfEveryNumber() {
        Due.by("For f = 0, 1, .. as long as 2 * f < m .. If no f gave one, there is no majority.");
        for (int m = 1; m <= 6; m++) {
            for (int k = 1; k <= m; k++) {
                MajorityClock clock = withSharing(m, k);
                String when = k + " of " + m;
                Due.is("update() with " + when, clock.update(), k < MAJORITY[m] ? -1 : Math.min(k, 3));
                Due.is("hull(false) with " + when, clock.hull(false), k < MAJORITY[m] ? Rig.NOTHING : 0);
                Due.is("hull(true) with " + when, clock.hull(true), k < MAJORITY[m] ? Rig.NOTHING : 9);
            }
        }
        Due.is("update() two and two", Rig.withIntervals(Rig.row(0, 50, 0, 50), Rig.row(9, 60, 9, 60)).update(), -1);
        Due.is("update() three and three",
                Rig.withIntervals(Rig.row(0, 50, 0, 50, 0, 50), Rig.row(9, 60, 9, 60, 9, 60)).update(), -1);
        found("three and two", Rig.withIntervals(Rig.row(0, 50, 0, 50, 0), Rig.row(9, 60, 9, 60, 9)), 21, 0, 9);
    }

    private static void endsAreIncluded() {
        Due.by("some number lies in the intervals (ends included)");
        found("ends touch", Rig.withIntervals(Rig.row(0, 10), Rig.row(10, 20)), 3, 10, 10);
        found("ends overlap by one", Rig.withIntervals(Rig.row(0, 9), Rig.row(10, 20)), 3, 9, 10);
        Due.is("update() one apart", Rig.withIntervals(Rig.row(0, 11), Rig.row(10, 20)).update(), -1);
        found("equal points", Rig.withIntervals(Rig.row(4, 4, 5), Rig.row(4, 4, 5)), 3, 4, 4);
        Due.is("update() points one apart", Rig.withIntervals(Rig.row(4, 5), Rig.row(4, 5)).update(), -1);
        found("a point at an end", Rig.withIntervals(Rig.row(0, 10), Rig.row(10, 10)), 3, 10, 10);
        Due.is("update() a point one beyond an end", Rig.withIntervals(Rig.row(0, 11), Rig.row(10, 11)).update(), -1);
    }

    private static void noGreaterFIsLookedAt() {
        Due.by("and no greater f is looked at");
        found("all three", Rig.withIntervals(Rig.row(0, 8, 2), Rig.row(10, 20, 9)), 7, 8, 9);
        found("all three in one number", Rig.withIntervals(Rig.row(0, 9, 2), Rig.row(10, 20, 9)), 7, 9, 9);
        found("two of three when they fail by one", Rig.withIntervals(Rig.row(0, 10, 2), Rig.row(10, 20, 9)), 7, 2, 10);
        found("four of five", Rig.withIntervals(Rig.row(0, 100, 5, 7, 6), Rig.row(20, 110, 30, 9, 40)), 13, 7, 9);
        found("three of five",
                Rig.withIntervals(Rig.row(0, 100, 5, 7, -90), Rig.row(20, 110, 30, 9, -80)), 13, 7, 9);
        found("four of six",
                Rig.withIntervals(Rig.row(0, 100, 5, 7, -90, 8), Rig.row(20, 110, 30, 9, -80, 9)), 41, 8, 9);
    }

    private static void orMoreServers() {
        Due.by("of m - f or more usable servers, the HULL goes from the least to the greatest of such numbers");
        found("two of three here, two of three there", Rig.withIntervals(Rig.row(0, -10, 90), Rig.row(100, 10, 110)),
                7, 0, 100);
        found("three of five from 0 to 10, four from 20 to 21",
                Rig.withIntervals(Rig.row(0, 0, 0, 20, 20), Rig.row(30, 30, 10, 40, 21)), 19, 20, 21);
        found("two of three from 0 on, one between, two again",
                Rig.withIntervals(Rig.row(0, 0, 9), Rig.row(10, 3, 20)), 7, 0, 10);
    }

    private static void hullFromTheLeastToTheGreatest() {
        Due.by("the HULL goes from the least to the greatest of such numbers");
        found("all agree", Rig.withIntervals(Rig.row(0, 5, -3), Rig.row(20, 30, 12)), 7, 5, 12);
        found("one inside the other", Rig.withIntervals(Rig.row(0, 5), Rig.row(20, 6)), 3, 5, 6);
        found("a single number far from the others widens it",
                Rig.withIntervals(Rig.row(0, 3, 10), Rig.row(10, 8, 20)), 7, 3, 10);
        found("the one in the gap is left too",
                Rig.withIntervals(Rig.row(0, 0, -10, 90, 50), Rig.row(100, 100, 10, 110, 51)), 19, 0, 100);
    }

    private static void unusableOnesDoNotCount() {
        Due.by("Let the usable servers be m in number");
        MajorityClock clock = Rig.withIntervals(Rig.row(0, 50, 100, 200), Rig.row(10, 60, 110, 210));
        Due.is("update() with four apart", clock.update(), -1);
        clock.tell(1, 15, 1, 0);
        clock.tell(2, 1, Rig.SELF, 0);
        Due.is("update() with two apart", clock.update(), -1);
        clock.tell(3, 16, 1, 0);
        found("with one left", clock, 1, 0, 10);
    }

    private static void onlyThoseAtTheHullAreLeft() {
        Due.by("the usable servers whose intervals have a number in common with the hull are left");
        found("one just below", Rig.withIntervals(Rig.row(10, 10, 0), Rig.row(20, 20, 9)), 3, 10, 20);
        found("one just above", Rig.withIntervals(Rig.row(10, 10, 21), Rig.row(20, 20, 30)), 3, 10, 20);
        found("one just below of four", Rig.withIntervals(Rig.row(10, 0, 10, 10), Rig.row(20, 9, 20, 20)), 13, 10, 20);
        found("one touches the lower end", Rig.withIntervals(Rig.row(0, 20, 10, 10), Rig.row(10, 40, 30, 30)),
                14, 10, 30);
        found("the hull's own ends", Rig.withIntervals(Rig.row(10, 0, 20), Rig.row(30, 10, 40)), 7, 10, 30);
        found("one in a gap of the hull",
                Rig.withIntervals(Rig.row(0, 0, -10, 90, 11), Rig.row(100, 100, 10, 110, 11)), 19, 0, 100);
    }

    private static void threeStayFourDoNot() {
        Due.by("As long as more than three are left, the one leaves");
        found("one stays", withSharing(1, 1), 1, 0, 9);
        found("two stay", withSharing(2, 2), 3, 0, 9);
        found("three stay", withSharing(3, 3), 7, 0, 9);
        found("three stay, however far apart", Rig.withIntervals(Rig.row(0, 0, -4000), Rig.row(9, 4000, 9)), 7, 0, 9);
        found("of four one leaves", withSharing(4, 4), 7, 0, 9);
        found("of five two leave", withSharing(5, 5), 7, 0, 9);
        found("of six three leave", withSharing(6, 6), 7, 0, 9);
        found("of six four share, one of these leaves", withSharing(6, 4), 28, 0, 9);
    }

    private static void farthestLeaveOneByOne() {
        Due.by("whose middle has the greatest sum of distances to the middles of all others that are left");
        found("four", Rig.withIntervals(Rig.row(0, 10, -60, 20), Rig.row(100, 110, 60, 120)), 11, 20, 60);
        found("six, the sums are made anew each time",
                Rig.withIntervals(Rig.row(-200, -190, -100, -90, -80, -300), Rig.row(200, 230, 300, 290, 320, 302)),
                Integer.parseInt("100011", 2), -80, 200);
        MajorityClock clock = Rig.withIntervals(Rig.row(-100, -90, 0, -80), Rig.row(100, 110, 1000, 120));
        found("the far one leaves", clock, 11, 0, 100);
        Due.is("time() is of the survivors only", clock.time(), clock.hardware() + 10);
        Due.is("bound()", clock.bound(), 90);
        found("farther by one below", Rig.withIntervals(Rig.row(-21, -10, -10, 0), Rig.row(79, 90, 90, 100)), 14, 0, 79);
        found("farther by one above", Rig.withIntervals(Rig.row(-10, 1, -10, -20), Rig.row(90, 101, 90, 80)), 13, 1, 80);
    }

    private static void amongEqualOnesTheHighestNumberLeaves() {
        Due.by("among equal ones the one with the highest number");
        found("four equal ones", Rig.withIntervals(Rig.row(0, 0, 0, 0), Rig.row(9, 9, 9, 9)), 7, 0, 9);
        found("six equal ones",
                Rig.withIntervals(Rig.row(0, 0, 0, 0, 0, 0), Rig.row(9, 9, 9, 9, 9, 9)), 7, 0, 9);
        found("both ends equally far",
                Rig.withIntervals(Rig.row(-20, -10, -10, 0), Rig.row(80, 90, 90, 100)), 7, 0, 80);
        found("both ends equally far, turned round",
                Rig.withIntervals(Rig.row(-10, -20, 0, -10), Rig.row(90, 80, 100, 90)), 11, 0, 80);
    }

    private static void middlesAreRoundedDown() {
        Due.by("All divisions are rounded down unless it is said otherwise");
        MajorityClock below = Rig.withIntervals(Rig.row(-4), Rig.row(-1));
        below.update();
        Due.is("time() with the middle -2.5", below.time(), below.hardware() - 3);
        MajorityClock over = Rig.withIntervals(Rig.row(1), Rig.row(4));
        over.update();
        Due.is("time() with the middle 2.5", over.time(), over.hardware() + 2);
        MajorityClock mean = Rig.withIntervals(Rig.row(-4, -4, -6), Rig.row(-2, -2, -2));
        mean.update();
        Due.is("time() with the mean -3.33", mean.time(), mean.hardware() - 4);
        MajorityClock two = Rig.withIntervals(Rig.row(-3, -4), Rig.row(-1, -2));
        two.update();
        Due.is("time() with the mean -2.5", two.time(), two.hardware() - 3);
        MajorityClock above = Rig.withIntervals(Rig.row(1, 1, 2), Rig.row(4, 4, 4));
        above.update();
        Due.is("time() with the mean 2.33", above.time(), above.hardware() + 2);
        Due.is("bound()", above.bound(), 2);
        MajorityClock distances = Rig.withIntervals(Rig.row(-10, -9, -12, -9), Rig.row(9, 9, 10, 10));
        found("distances are those of the middles rounded down", distances, 7, -9, 9);
    }

    private static void failedUpdateChangesNothing() {
        Due.by("in these two cases nothing changes. (So survivors(), hull(), stratum() tell those of before.)");
        MajorityClock clock = Rig.withIntervals(Rig.row(0, 0, 0), Rig.row(10, 12, 8));
        clock.tell(1, 3, 1, 0);
        found("at first", clock, 7, 0, 8);
        long time = clock.time();
        Rig.samplesForAll(clock, Rig.row(500, 700, 900), Rig.row(500, 700, 900), 0);
        Due.is("update() without a majority", clock.update(), -1);
        unchanged("without a majority", clock, time);
        for (int s = 0; s < 3; s++) {
            clock.tell(s, 15, 1, 0);
        }
        Due.is("update() without usable servers", clock.update(), 0);
        unchanged("without usable servers", clock, time);
        clock.advance(160000);
        Due.is("time() goes on as before", clock.time(), time + 160000);
    }

    private static void unchanged(String when, MajorityClock clock, long time) {
        Due.is("survivors() " + when, clock.survivors(), 7);
        Due.is("hull(false) " + when, clock.hull(false), 0);
        Due.is("hull(true) " + when, clock.hull(true), 8);
        Due.is("stratum() " + when, clock.stratum(), 2);
        Due.is("time() " + when, clock.time(), time);
        Due.is("bound() " + when, clock.bound(), 5);
    }

    private static void survivorsBeforeAnyWereFound() {
        Due.by("The sum of 1 << s over the survivors of the latest update that found some; 0 when there was none.");
        MajorityClock clock = Rig.withIntervals(Rig.row(0, 50), Rig.row(9, 60));
        Due.is("survivors() before an update", clock.survivors(), 0);
        Due.is("update()", clock.update(), -1);
        Due.is("survivors() after an update without a majority", clock.survivors(), 0);
        makeUnusable(clock);
        Due.is("update()", clock.update(), 0);
        Due.is("survivors() after an update without usable servers", clock.survivors(), 0);
        clock.tell(1, 1, 1, 0);
        Due.is("update()", clock.update(), 1);
        Due.is("survivors() after the first that found some", clock.survivors(), 2);
    }

    private static void hullBeforeAnyWereFound() {
        Due.by("of the latest update that found survivors; NOTHING when there was none.");
        MajorityClock clock = Rig.withIntervals(Rig.row(0, 50), Rig.row(9, 60));
        hull("before an update", clock, Rig.NOTHING, Rig.NOTHING);
        Due.is("update()", clock.update(), -1);
        hull("after an update without a majority", clock, Rig.NOTHING, Rig.NOTHING);
        makeUnusable(clock);
        Due.is("update()", clock.update(), 0);
        hull("after an update without usable servers", clock, Rig.NOTHING, Rig.NOTHING);
        clock.tell(1, 1, 1, 0);
        Due.is("update()", clock.update(), 1);
        hull("after the first that found some", clock, 50, 60);
    }

    private static void stratumBeforeAnyWereFound() {
        Due.by("16 when there was none.");
        MajorityClock clock = Rig.withIntervals(Rig.row(0, 50), Rig.row(9, 60));
        Due.is("stratum() before an update", clock.stratum(), 16);
        Due.is("update()", clock.update(), -1);
        Due.is("stratum() after an update without a majority", clock.stratum(), 16);
        makeUnusable(clock);
        Due.is("update()", clock.update(), 0);
        Due.is("stratum() after an update without usable servers", clock.stratum(), 16);
        clock.tell(1, 1, 1, 0);
        Due.is("update()", clock.update(), 1);
        Due.is("stratum() after the first that found some", clock.stratum(), 2);
    }

    private static void makeUnusable(MajorityClock clock) {
        clock.tell(0, 16, 1, 0);
        clock.tell(1, 16, 1, 0);
    }

    private static void hull(String when, MajorityClock clock, long lower, long upper) {
        Due.is("hull(false) " + when, clock.hull(false), lower);
        Due.is("hull(true) " + when, clock.hull(true), upper);
    }

    private static void stratumIsThatOfTheSurvivors() {
        Due.by("One more than the least stratum that a survivor had at the latest update that found survivors");
        MajorityClock clock = Rig.withIntervals(Rig.row(0, 0, 0, 300), Rig.row(10, 10, 10, 310));
        clock.tell(0, 7, 1, 0);
        clock.tell(1, 5, 1, 0);
        clock.tell(2, 9, 1, 0);
        found("with a liar of stratum 1", clock, 7, 0, 10);
        Due.is("stratum()", clock.stratum(), 6);
        clock.tell(1, 2, 1, 0);
        Due.is("stratum() before the next update", clock.stratum(), 6);
        clock.update();
        Due.is("stratum() after it", clock.stratum(), 3);
        Rig.sample(clock, 0, 300, 300, 0);
        Rig.sample(clock, 1, 310, 310, 0);
        Rig.sample(clock, 2, 305, 305, 0);
        Due.is("update() elsewhere", clock.update(), -1);
        Due.is("stratum() of before", clock.stratum(), 3);
        MajorityClock four = withSharing(4, 4);
        for (int s = 0; s < 4; s++) {
            four.tell(s, 9 - s, 1, 0);
        }
        four.update();
        Due.is("stratum() without the one that left", four.stratum(), 8);
    }

    private static void edgesOfTheOwnStratum() {
        Due.by("One more than the least stratum that a survivor had");
        for (int stratum = 1; stratum <= 16; stratum++) {
            MajorityClock clock = Rig.withIntervals(Rig.row(0), Rig.row(4));
            clock.tell(0, stratum, 1, 0);
            clock.update();
            Due.is("stratum() with " + stratum, clock.stratum(), stratum <= 14 ? stratum + 1 : 16);
        }
    }
}
