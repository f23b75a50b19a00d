/** Promises 9 and 10: low, high. */
public final class IntervalsTest {
    public static void main(String[] args) {
        nothingThere();
        growthIsRoundedUp();
        rootWidensBothEnds();
        shortestSampleIsTaken();
        amongEqualOnesTheLatest();
        growthCountsForTheShortest();
        ninthSampleIsForgotten();
        endsMayBeBelowZero();
        Due.end();
    }

    private static void interval(String when, MajorityClock clock, int s, long low, long high) {
        Due.is("low(" + s + ") " + when, clock.low(s), low);
        Due.is("high(" + s + ") " + when, clock.high(s), high);
    }

    private static void nothingThere() {
        MajorityClock clock = new MajorityClock(2, 0, 0);
        int[] servers = {-1, 0, 1, 2, 6, Integer.MAX_VALUE, Integer.MIN_VALUE};
        for (int s : servers) {
            interval("of a new object", clock, s, Rig.NOTHING, Rig.NOTHING);
        }
        clock.ask(0);
        interval("when only asked", clock, 0, Rig.NOTHING, Rig.NOTHING);
        Rig.sample(clock, 1, 0, 0, 0);
        interval("of the other", clock, 0, Rig.NOTHING, Rig.NOTHING);
        interval("of the one", clock, 1, 0, 0);
        interval("beyond", clock, 2, Rig.NOTHING, Rig.NOTHING);
    }

    private static void growthIsRoundedUp() {
        MajorityClock clock = new MajorityClock(1, 300, 0);
        Rig.sample(clock, 0, -2, 5, 100);
        interval("at once", clock, 0, -2, 5);
        clock.advance(1);
        interval("after 1 tick", clock, 0, -3, 6);
        clock.advance(3332);
        interval("after 3333 ticks", clock, 0, -3, 6);
        clock.advance(1);
        interval("after 3334 ticks", clock, 0, -4, 7);
        clock.advance(6666);
        interval("after 10000 ticks", clock, 0, -5, 8);
        clock.advance(1);
        interval("after 10001 ticks", clock, 0, -6, 9);
        for (int i = 0; i < 500; i++) {
            clock.advance(1000000);
        }
        interval("after very many ticks", clock, 0, -2 - 150004, 5 + 150004);
        MajorityClock slow = new MajorityClock(1, 1, 0);
        Rig.sample(slow, 0, 0, 0, 0);
        slow.advance(1);
        interval("a millionth of a tick", slow, 0, -1, 1);
        slow.advance(999999);
        interval("a whole tick", slow, 0, -1, 1);
        slow.advance(1);
        interval("a millionth above a tick", slow, 0, -2, 2);
    }

    private static void rootWidensBothEnds() {
        MajorityClock clock = new MajorityClock(1, 1000, 0);
        Rig.sample(clock, 0, 10, 20, 100);
        clock.tell(0, 16, 0, 7);
        interval("with the root 7", clock, 0, 3, 27);
        clock.advance(2000);
        interval("with the root 7 and growth 2", clock, 0, 1, 29);
        clock.tell(0, 16, 0, 1000000);
        interval("with the greatest root", clock, 0, 8 - 1000000, 22 + 1000000);
    }

    private static void shortestSampleIsTaken() {
        MajorityClock clock = new MajorityClock(1, 0, 0);
        clock.advance(1000);
        Rig.sample(clock, 0, 0, 10, 100);
        Rig.sample(clock, 0, 50, 59, 100);
        interval("the latest is shorter", clock, 0, 50, 59);
        Rig.sample(clock, 0, 100, 120, 100);
        interval("the one before is shorter", clock, 0, 50, 59);
        clock.advance(1000000);
        interval("age alone means nothing without drift", clock, 0, 50, 59);
    }

    private static void amongEqualOnesTheLatest() {
        MajorityClock clock = new MajorityClock(1, 0, 0);
        clock.advance(1000);
        Rig.sample(clock, 0, 0, 10, 100);
        Rig.sample(clock, 0, 5, 15, 100);
        interval("two equal ones", clock, 0, 5, 15);
        Rig.sample(clock, 0, -3, 7, 100);
        interval("three equal ones", clock, 0, -3, 7);
        Rig.sample(clock, 0, 0, 11, 100);
        interval("a longer one later", clock, 0, -3, 7);
    }

    private static void growthCountsForTheShortest() {
        MajorityClock clock = new MajorityClock(1, 1000, 0);
        clock.advance(1000);
        Rig.sample(clock, 0, 0, 10, 100);
        Rig.sample(clock, 0, 100, 114, 1000);
        interval("growth 1 makes 12, shorter than 14", clock, 0, -1, 11);
        Rig.sample(clock, 0, 200, 214, 1000);
        interval("growth 2 makes 14, as short as the latest", clock, 0, 200, 214);
        clock.advance(1);
        interval("growth 3 and growth 1 make 16 each", clock, 0, 199, 215);
        clock.advance(998);
        interval("growth 3 and growth 1 still", clock, 0, 199, 215);
    }

    private static void ninthSampleIsForgotten() {
        MajorityClock clock = new MajorityClock(1, 0, 0);
        clock.advance(1000);
        Rig.sample(clock, 0, 70, 70, 100);
        for (int i = 1; i <= 7; i++) {
            Rig.sample(clock, 0, i, 2 * i + 20, 100);
            interval("with " + i + " after it", clock, 0, 70, 70);
        }
        Rig.sample(clock, 0, 8, 36, 100);
        interval("with 8 after it", clock, 0, 1, 22);
        Rig.sample(clock, 0, 9, 38, 100);
        interval("with 9 after it", clock, 0, 2, 24);
    }

    private static void endsMayBeBelowZero() {
        MajorityClock clock = new MajorityClock(1, 0, 0);
        clock.advance(1000000);
        Rig.sample(clock, 0, -1000000, -999990, 10);
        interval("long before the hardware time", clock, 0, -1000000, -999990);
    }
}
