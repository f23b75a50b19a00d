/** Promises 9 and 10: low, high. */
public final class IntervalsTest {
    private static final int[] NO_SERVERS = {-1, 2, 3, 6, Integer.MAX_VALUE, Integer.MIN_VALUE};

    public static void main(String[] args) {
        lowOfNoServer();
        highOfNoServer();
        lowWithoutSamples();
        highWithoutSamples();
        growthIsRoundedUp();
        growthOfTheLeastDrift();
        growthOfTheGreatestDrift();
        noGrowthWithoutDrift();
        rootWidensBothEnds();
        shortestSampleIsTaken();
        amongEqualOnesTheLatest();
        growthCountsForTheShortest();
        eighthSampleStaysTheNinthGoes();
        eightSamplesOfEachServer();
        endsMayBeBelowZero();
        Due.end();
    }

    private static void interval(String when, MajorityClock clock, int s, long low, long high) {
        Due.is("low(" + s + ") " + when, clock.low(s), low);
        Due.is("high(" + s + ") " + when, clock.high(s), high);
    }

    private static void lowOfNoServer() {
        Due.by("The low end of the interval of server s; NOTHING when there is no such server");
        MajorityClock clock = new MajorityClock(2, 0, 0);
        Rig.samplesForAll(clock, Rig.row(0, 5), Rig.row(0, 5), 0);
        for (int s : NO_SERVERS) {
            Due.is("low(" + s + ")", clock.low(s), Rig.NOTHING);
        }
        Due.is("low(0)", clock.low(0), 0);
        Due.is("low(1)", clock.low(1), 5);
    }

    private static void highOfNoServer() {
        Due.by("The high end of the interval of server s; NOTHING when there is no such server");
        MajorityClock clock = new MajorityClock(2, 0, 0);
        Rig.samplesForAll(clock, Rig.row(0, 5), Rig.row(0, 5), 0);
        for (int s : NO_SERVERS) {
            Due.is("high(" + s + ")", clock.high(s), Rig.NOTHING);
        }
        Due.is("high(0)", clock.high(0), 0);
        Due.is("high(1)", clock.high(1), 5);
    }

    private static void lowWithoutSamples() {
        Due.by("NOTHING when there is no such server or it has no samples.");
        MajorityClock clock = new MajorityClock(2, 0, 0);
        Due.is("low(0) of a new object", clock.low(0), Rig.NOTHING);
        clock.tell(0, 1, 1, 100);
        clock.ask(0);
        Due.is("low(0) when only asked", clock.low(0), Rig.NOTHING);
        Rig.sealedReply(clock, 0, 0, 0, 1);
        Due.is("low(0) when the reply was refused", clock.low(0), Rig.NOTHING);
        Rig.sample(clock, 1, 0, 0, 0);
        Due.is("low(0) when the other has a sample", clock.low(0), Rig.NOTHING);
        Rig.sample(clock, 0, 7, 7, 0);
        Due.is("low(0) with one sample", clock.low(0), -93);
    }

    private static void highWithoutSamples() {
        Due.by("NOTHING when there is no such server or it has no samples.");
        MajorityClock clock = new MajorityClock(2, 0, 0);
        Due.is("high(0) of a new object", clock.high(0), Rig.NOTHING);
        clock.tell(0, 1, 1, 100);
        clock.ask(0);
        Due.is("high(0) when only asked", clock.high(0), Rig.NOTHING);
        Rig.sealedReply(clock, 0, 0, 0, 1);
        Due.is("high(0) when the reply was refused", clock.high(0), Rig.NOTHING);
        Rig.sample(clock, 1, 0, 0, 0);
        Due.is("high(0) when the other has a sample", clock.high(0), Rig.NOTHING);
        Rig.sample(clock, 0, 7, 7, 0);
        Due.is("high(0) with one sample", clock.high(0), 107);
    }

    private static void growthIsRoundedUp() {
        Due.by("GROWTH G(n) of n ticks is n * drift / 1000000, rounded up.");
        MajorityClock clock = new MajorityClock(1, 300, 0);
        Rig.sample(clock, 0, -2, 5, 100);
        interval("at once", clock, 0, -2, 5);
        clock.advance(1);
        interval("after 1 tick", clock, 0, -3, 6);
        clock.advance(3332);
        interval("after 3333 ticks", clock, 0, -3, 6);
        clock.advance(1);
        interval("after 3334 ticks", clock, 0, -4, 7);
        clock.advance(6666);
        interval("after 10000 ticks", clock, 0, -5, 8);
        clock.advance(1);
        interval("after 10001 ticks", clock, 0, -6, 9);
        for (int i = 0; i < 400; i++) {
            clock.advance(1000000);
        }
        interval("after very many ticks", clock, 0, -2 - 120004, 5 + 120004);
    }

    private static void growthOfTheLeastDrift() {
        Due.by("GROWTH G(n) of n ticks is n * drift / 1000000, rounded up.");
        MajorityClock clock = new MajorityClock(1, 1, 0);
        Rig.sample(clock, 0, 0, 0, 0);
        interval("at once", clock, 0, 0, 0);
        clock.advance(1);
        interval("a millionth of a tick", clock, 0, -1, 1);
        clock.advance(999999);
        interval("a whole tick", clock, 0, -1, 1);
        clock.advance(1);
        interval("a millionth above a tick", clock, 0, -2, 2);
    }

    private static void growthOfTheGreatestDrift() {
        Due.by("GROWTH G(n) of n ticks is n * drift / 1000000, rounded up.");
        MajorityClock clock = new MajorityClock(1, 1000, 0);
        Rig.sample(clock, 0, 0, 0, 0);
        clock.advance(999);
        interval("after 999 ticks", clock, 0, -1, 1);
        clock.advance(1);
        interval("after 1000 ticks", clock, 0, -1, 1);
        clock.advance(1);
        interval("after 1001 ticks", clock, 0, -2, 2);
        clock.advance(998999);
        clock.advance(1000000);
        clock.advance(147483);
        interval("after 2147483 ticks", clock, 0, -2148, 2148);
        clock.advance(518);
        interval("after 2148001 ticks", clock, 0, -2149, 2149);
    }

    private static void noGrowthWithoutDrift() {
        Due.by("GROWTH G(n) of n ticks is n * drift / 1000000");
        MajorityClock clock = new MajorityClock(1, 0, 0);
        Rig.sample(clock, 0, -2, 5, 100);
        clock.advance(1);
        interval("after a tick", clock, 0, -2, 5);
        clock.advance(1000000);
        interval("after many ticks", clock, 0, -2, 5);
    }

    private static void rootWidensBothEnds() {
        Due.by("a sample gives the interval from its low end - root - g to its high end + root + g");
        MajorityClock clock = new MajorityClock(1, 1000, 0);
        Rig.sample(clock, 0, 10, 20, 100);
        clock.tell(0, 16, 0, 7);
        interval("with the root 7", clock, 0, 3, 27);
        clock.advance(2000);
        interval("with the root 7 and growth 2", clock, 0, 1, 29);
        clock.tell(0, 16, 0, 1000000);
        interval("with the greatest root", clock, 0, 8 - 1000000, 22 + 1000000);
        clock.tell(0, 16, 0, 0);
        interval("with no root", clock, 0, 8, 22);
    }

    private static void shortestSampleIsTaken() {
        Due.by("The server's interval is the shortest that one of its samples gives");
        MajorityClock clock = new MajorityClock(1, 0, 0);
        clock.advance(1000);
        Rig.sample(clock, 0, 0, 10, 100);
        Rig.sample(clock, 0, 50, 59, 100);
        interval("the latest is shorter by one", clock, 0, 50, 59);
        Rig.sample(clock, 0, 100, 110, 100);
        interval("the latest is longer by one", clock, 0, 50, 59);
        clock.advance(1000000);
        interval("age alone means nothing without drift", clock, 0, 50, 59);
        Rig.sample(clock, 0, 80, 80, 100);
        interval("a point is shortest", clock, 0, 80, 80);
    }

    private static void amongEqualOnesTheLatest() {
        Due.by("among equally short ones that of the latest sample");
        MajorityClock clock = new MajorityClock(1, 0, 0);
        clock.advance(1000);
        Rig.sample(clock, 0, 0, 10, 100);
        Rig.sample(clock, 0, 5, 15, 100);
        interval("two equal ones", clock, 0, 5, 15);
        Rig.sample(clock, 0, -3, 7, 100);
        interval("three equal ones", clock, 0, -3, 7);
        Rig.sample(clock, 0, 0, 11, 100);
        interval("a longer one later", clock, 0, -3, 7);
        for (int i = 1; i <= 9; i++) {
            Rig.sample(clock, 0, 20 + i, 30 + i, 10);
            interval("of many equal ones", clock, 0, 20 + i, 30 + i);
        }
    }

    private static void growthCountsForTheShortest() {
        Due.by("with g the growth since a sample's time");
        MajorityClock clock = new MajorityClock(1, 1000, 0);
        clock.advance(1000);
        Rig.sample(clock, 0, 0, 10, 100);
        Rig.sample(clock, 0, 100, 114, 1000);
        interval("growth 1 makes 12, shorter than 14", clock, 0, -1, 11);
        Rig.sample(clock, 0, 200, 214, 1000);
        interval("growth 2 makes 14, as short as the latest", clock, 0, 200, 214);
        clock.advance(1);
        interval("growth 3 and growth 1 make 16 each", clock, 0, 199, 215);
        clock.advance(998);
        interval("growth 3 and growth 1 still", clock, 0, 199, 215);
    }

    private static void eighthSampleStaysTheNinthGoes() {
        Due.by("the latest 8 SAMPLES (older ones are forgotten)");
        MajorityClock clock = new MajorityClock(1, 0, 0);
        clock.advance(1000);
        Rig.sample(clock, 0, 70, 70, 100);
        for (int i = 1; i <= 7; i++) {
            Rig.sample(clock, 0, i, 2 * i + 20, 100);
            interval("with " + i + " after it", clock, 0, 70, 70);
        }
        Rig.sample(clock, 0, 8, 36, 100);
        interval("with 8 after it", clock, 0, 1, 22);
        for (int i = 9; i <= 24; i++) {
            Rig.sample(clock, 0, i, 2 * i + 20, 100);
            interval("with " + i + " after it", clock, 0, i - 7, 2 * (i - 7) + 20);
        }
    }

    private static void eightSamplesOfEachServer() {
        Due.by("Each has .. the latest 8 SAMPLES");
        MajorityClock clock = new MajorityClock(2, 0, 0);
        clock.advance(1000);
        Rig.sample(clock, 1, 70, 70, 100);
        for (int i = 1; i <= 8; i++) {
            Rig.sample(clock, 0, i, 2 * i + 20, 100);
        }
        interval("the other's is not forgotten", clock, 1, 70, 70);
        interval("the oldest of eight", clock, 0, 1, 22);
    }

    private static void endsMayBeBelowZero() {
        Due.by("a sample gives the interval from its low end - root - g to its high end + root + g");
        MajorityClock clock = new MajorityClock(1, 1000, 0);
        clock.advance(1000000);
        Rig.sample(clock, 0, -1000000, -999990, 10);
        interval("long before the hardware time", clock, 0, -1000000, -999990);
        clock.advance(1001);
        interval("growth goes away from the middle below zero too", clock, 0, -1000002, -999988);
    }
}
