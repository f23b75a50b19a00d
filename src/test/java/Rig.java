/** Brings a clock into the states that the tests need. */
final class Rig {
    static final long NOTHING = -4611686018427387904L;
    static final int SELF = 99;

    private Rig() {
    }

    /** Hands in a reply with the right seal. */
    static int sealedReply(MajorityClock clock, int s, long origin, long received, long sent) {
        return clock.reply(s, origin, received, sent, clock.seal(s, origin, received, sent));
    }

    /** Gives server s a sample from low to high, now: asked and replied to over the given ticks. */
    static void sample(MajorityClock clock, int s, long low, long high, int ticks) {
        long[] lows = new long[s + 1];
        long[] highs = new long[s + 1];
        lows[s] = low;
        highs[s] = high;
        samples(clock, s, lows, highs, ticks);
    }

    /** Gives the servers 0, 1, .. samples with these ends, all at one time, after so many ticks. */
    static void samplesForAll(MajorityClock clock, long[] lows, long[] highs, int ticks) {
        samples(clock, 0, lows, highs, ticks);
    }

    private static void samples(MajorityClock clock, int first, long[] lows, long[] highs, int ticks) {
        long[] origins = new long[lows.length];
        long start = clock.hardware();
        for (int s = first; s < lows.length; s++) {
            origins[s] = clock.ask(s);
        }
        clock.advance(ticks);
        for (int s = first; s < lows.length; s++) {
            int answer = sealedReply(clock, s, origins[s], highs[s] + start, lows[s] + clock.hardware());
            if (answer < 1) {
                Due.is("the rig's reply of server " + s, answer, 1);
            }
        }
    }

    /** A clock at hardware time 10000 whose servers have these intervals, without drift. */
    static MajorityClock withIntervals(long[] lows, long[] highs) {
        MajorityClock clock = new MajorityClock(lows.length, 0, SELF);
        clock.advance(5000);
        for (int s = 0; s < lows.length; s++) {
            clock.tell(s, 1, 1, 0);
        }
        samplesForAll(clock, lows, highs, 5000);
        return clock;
    }

    static long[] row(long... numbers) {
        return numbers;
    }
}
