/** Promises 11 to 14: update, survivors, hull, stratum. */
public final class UpdatesTest {
    public static void main(String[] args) {
        whoIsUsable();
        ageOfTheLatestSample();
        oneServerAlone();
        allAgree();
        endsThatTouch();
        fewestLiars();
        halfIsNoMajority();
        hullSpansAGap();
        onlyThoseAtTheHullAreLeft();
        farthestLeaveOneByOne();
        amongEqualOnesTheHighestNumberLeaves();
        middlesAreRoundedDown();
        failedUpdateChangesNothing();
        stratumIsThatOfTheUpdate();
        Due.end();
    }

    private static void found(String when, MajorityClock clock, int bits, long lower, long upper) {
        Due.is("update() " + when, clock.update(), Integer.bitCount(bits));
        Due.is("survivors() " + when, clock.survivors(), bits);
        Due.is("hull(false) " + when, clock.hull(false), lower);
        Due.is("hull(true) " + when, clock.hull(true), upper);
    }

    private static void whoIsUsable() {
        for (int stratum = 1; stratum <= 16; stratum++) {
            MajorityClock clock = Rig.withIntervals(Rig.row(0), Rig.row(4));
            clock.tell(0, stratum, 1, 0);
            Due.is("update() with stratum " + stratum, clock.update(), stratum <= 14 ? 1 : 0);
            Due.is("stratum()", clock.stratum(), stratum <= 14 ? stratum + 1 : 16);
        }
        MajorityClock clock = Rig.withIntervals(Rig.row(0, 100, 0), Rig.row(4, 104, 4));
        clock.tell(1, 1, Rig.SELF, 0);
        found("without the one that follows us", clock, 5, 0, 4);
        MajorityClock partly = new MajorityClock(3, 0, Rig.SELF);
        partly.tell(0, 1, 1, 0);
        partly.tell(1, 1, 1, 0);
        Rig.sample(partly, 1, 3, 3, 10);
        found("without those that have no samples", partly, 2, 3, 3);
    }

    private static void ageOfTheLatestSample() {
        MajorityClock clock = Rig.withIntervals(Rig.row(0), Rig.row(4));
        clock.advance(1000000);
        Due.is("update() with a sample 1000000 old", clock.update(), 1);
        clock.advance(1);
        Due.is("update() with a sample 1000001 old", clock.update(), 0);
        Rig.sample(clock, 0, 50, 90, 100);
        found("the latest is young, the shortest old", clock, 1, 0, 4);
    }

    private static void oneServerAlone() {
        MajorityClock clock = Rig.withIntervals(Rig.row(-7), Rig.row(4));
        found("with one server", clock, 1, -7, 4);
        Due.is("time()", clock.time(), clock.hardware() - 2);
        Due.is("bound()", clock.bound(), 6);
    }

    private static void allAgree() {
        found("all agree", Rig.withIntervals(Rig.row(0, 5, -3), Rig.row(20, 30, 12)), 7, 5, 12);
        found("two agree", Rig.withIntervals(Rig.row(0, 5), Rig.row(20, 30)), 3, 5, 20);
        found("one inside the other", Rig.withIntervals(Rig.row(0, 5), Rig.row(20, 6)), 3, 5, 6);
    }

    private static void endsThatTouch() {
        found("ends touch", Rig.withIntervals(Rig.row(0, 10), Rig.row(10, 20)), 3, 10, 10);
        Due.is("update() one apart", Rig.withIntervals(Rig.row(0, 11), Rig.row(10, 20)).update(), -1);
        found("a single number far from the others widens the hull",
                Rig.withIntervals(Rig.row(0, 3, 10), Rig.row(10, 8, 20)), 7, 3, 10);
        found("points", Rig.withIntervals(Rig.row(4, 4, 5), Rig.row(4, 4, 5)), 3, 4, 4);
    }

    private static void fewestLiars() {
        found("one liar in three", Rig.withIntervals(Rig.row(0, 5, 100), Rig.row(20, 30, 110)), 3, 5, 20);
        found("one liar in four", Rig.withIntervals(Rig.row(0, 100, 5, 7), Rig.row(20, 110, 30, 9)), 13, 7, 9);
        found("two liars in five",
                Rig.withIntervals(Rig.row(0, 100, 5, 7, -90), Rig.row(20, 110, 30, 9, -80)), 13, 7, 9);
        found("two liars in six",
                Rig.withIntervals(Rig.row(0, 100, 5, 7, -90, 8), Rig.row(20, 110, 30, 9, -80, 9)), 41, 8, 9);
        found("f is not greater than it must be",
                Rig.withIntervals(Rig.row(0, 8, 2), Rig.row(10, 20, 9)), 7, 8, 9);
    }

    private static void halfIsNoMajority() {
        Due.is("update() one of two", Rig.withIntervals(Rig.row(0, 50), Rig.row(9, 60)).update(), -1);
        Due.is("update() two of four",
                Rig.withIntervals(Rig.row(0, 50, 0, 50), Rig.row(9, 60, 9, 60)).update(), -1);
        Due.is("update() one of three",
                Rig.withIntervals(Rig.row(0, 50, 100), Rig.row(9, 60, 109)).update(), -1);
        Due.is("update() two of five",
                Rig.withIntervals(Rig.row(0, 50, 0, 50, 80), Rig.row(9, 60, 9, 60, 90)).update(), -1);
        Due.is("update() three of six",
                Rig.withIntervals(Rig.row(0, 50, 0, 50, 0, 50), Rig.row(9, 60, 9, 60, 9, 60)).update(), -1);
    }

    private static void hullSpansAGap() {
        found("two pairs of three", Rig.withIntervals(Rig.row(0, -10, 90), Rig.row(100, 10, 110)), 7, 0, 100);
        found("the one in the gap is left too",
                Rig.withIntervals(Rig.row(0, 0, -10, 90, 50), Rig.row(100, 100, 10, 110, 51)), 19, 0, 100);
    }

    private static void onlyThoseAtTheHullAreLeft() {
        found("one just below", Rig.withIntervals(Rig.row(10, 10, 0), Rig.row(20, 20, 9)), 3, 10, 20);
        found("one just above", Rig.withIntervals(Rig.row(10, 10, 21), Rig.row(20, 20, 30)), 3, 10, 20);
        found("one touches the lower end", Rig.withIntervals(Rig.row(10, 0, 20), Rig.row(30, 10, 40)), 7, 10, 30);
        found("one touches the upper end", Rig.withIntervals(Rig.row(10, 30, 0), Rig.row(30, 50, 20)), 7, 10, 30);
    }

    private static void farthestLeaveOneByOne() {
        found("four", Rig.withIntervals(Rig.row(0, 10, -60, 20), Rig.row(100, 110, 60, 120)), 11, 20, 60);
        found("six, the sums are made anew each time",
                Rig.withIntervals(Rig.row(-200, -190, -100, -90, -80, -300), Rig.row(200, 230, 300, 290, 320, 302)),
                Integer.parseInt("100011", 2), -80, 200);
        MajorityClock clock = Rig.withIntervals(Rig.row(-100, -90, 0, -80), Rig.row(100, 110, 1000, 120));
        found("the far one leaves", clock, 11, 0, 100);
        Due.is("time() is of the survivors only", clock.time(), clock.hardware() + 10);
        Due.is("bound()", clock.bound(), 90);
    }

    private static void amongEqualOnesTheHighestNumberLeaves() {
        found("four equal ones", Rig.withIntervals(Rig.row(0, 0, 0, 0), Rig.row(9, 9, 9, 9)), 7, 0, 9);
        found("six equal ones",
                Rig.withIntervals(Rig.row(0, 0, 0, 0, 0, 0), Rig.row(9, 9, 9, 9, 9, 9)), 7, 0, 9);
        found("both ends equally far",
                Rig.withIntervals(Rig.row(-20, -10, -10, 0), Rig.row(80, 90, 90, 100)), 7, 0, 80);
        found("both ends equally far, turned round",
                Rig.withIntervals(Rig.row(-10, -20, 0, -10), Rig.row(90, 80, 100, 90)), 11, 0, 80);
    }

    private static void middlesAreRoundedDown() {
        MajorityClock below = Rig.withIntervals(Rig.row(-4), Rig.row(-1));
        below.update();
        Due.is("time() with the middle -2.5", below.time(), below.hardware() - 3);
        MajorityClock mean = Rig.withIntervals(Rig.row(-4, -4, -6), Rig.row(-2, -2, -2));
        mean.update();
        Due.is("time() with the mean -3.33", mean.time(), mean.hardware() - 4);
        MajorityClock above = Rig.withIntervals(Rig.row(1, 1, 2), Rig.row(4, 4, 4));
        above.update();
        Due.is("time() with the mean 2.33", above.time(), above.hardware() + 2);
        Due.is("bound()", above.bound(), 2);
        MajorityClock distances = Rig.withIntervals(Rig.row(-10, -9, -12, -9), Rig.row(9, 9, 10, 10));
        found("distances are those of the middles rounded down", distances, 7, -9, 9);
    }

    private static void failedUpdateChangesNothing() {
        MajorityClock clock = Rig.withIntervals(Rig.row(0, 0, 0), Rig.row(10, 12, 8));
        clock.tell(1, 3, 1, 0);
        found("at first", clock, 7, 0, 8);
        long time = clock.time();
        Rig.samplesForAll(clock, Rig.row(500, 700, 900), Rig.row(500, 700, 900), 0);
        Due.is("update() without a majority", clock.update(), -1);
        unchanged("without a majority", clock, time);
        for (int s = 0; s < 3; s++) {
            clock.tell(s, 15, 1, 0);
        }
        Due.is("update() without usable servers", clock.update(), 0);
        unchanged("without usable servers", clock, time);
        clock.advance(160000);
        Due.is("time() goes on as before", clock.time(), time + 160000);
    }

    private static void unchanged(String when, MajorityClock clock, long time) {
        Due.is("survivors() " + when, clock.survivors(), 7);
        Due.is("hull(false) " + when, clock.hull(false), 0);
        Due.is("hull(true) " + when, clock.hull(true), 8);
        Due.is("stratum() " + when, clock.stratum(), 2);
        Due.is("time() " + when, clock.time(), time);
        Due.is("bound() " + when, clock.bound(), 5);
    }

    private static void stratumIsThatOfTheUpdate() {
        MajorityClock clock = Rig.withIntervals(Rig.row(0, 0, 0, 300), Rig.row(10, 10, 10, 310));
        clock.tell(0, 7, 1, 0);
        clock.tell(1, 5, 1, 0);
        clock.tell(2, 9, 1, 0);
        found("with a liar of stratum 1", clock, 7, 0, 10);
        Due.is("stratum()", clock.stratum(), 6);
        clock.tell(1, 2, 1, 0);
        Due.is("stratum() before the next update", clock.stratum(), 6);
        clock.update();
        Due.is("stratum() after it", clock.stratum(), 3);
        Rig.sample(clock, 0, 300, 300, 0);
        Rig.sample(clock, 1, 310, 310, 0);
        Rig.sample(clock, 2, 305, 305, 0);
        Due.is("update() elsewhere", clock.update(), -1);
        Due.is("stratum() of before", clock.stratum(), 3);
    }
}
