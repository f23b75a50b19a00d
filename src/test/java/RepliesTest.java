/** Promises 6 and 7: ask, reply. */
public final class RepliesTest {
    private static final long LATEST = 1L << 40;
    private static final int[] NO_SERVERS = {-1, 2, 3, 6, Integer.MAX_VALUE, Integer.MIN_VALUE};

    public static void main(String[] args) {
        stampIsTheHardwareTime();
        stampIsOneMoreThanTheOneBefore();
        requestToNoServer();
        requestTakesThePlaceOfAPendingOne();
        requestsOfServersAreApart();
        unknown();
        malformedOutsideTheTimes();
        malformedWhenReceivedAfterSent();
        forged();
        duplicate();
        duplicateOfTheLatestOnly();
        noDuplicateBeforeTheFirst();
        bogusWithoutARequest();
        bogusWithAnotherOrigin();
        hasty();
        hastyCountsFromTheTimeNotTheStamp();
        firstReasonIsTold();
        acceptedIsPendingNoMore();
        endsOfTheSample();
        eightSamplesAtMost();
        Due.end();
    }

    private static void refused(String what, MajorityClock clock, long origin, long received, long sent, int why) {
        Due.is("reply " + what, Rig.sealedReply(clock, 0, origin, received, sent), why);
    }

    /** A clock at hardware time 100 whose one server was asked at 0 with the stamp 0. */
    private static MajorityClock waiting() {
        MajorityClock clock = new MajorityClock(1, 0, 0);
        clock.ask(0);
        clock.advance(100);
        return clock;
    }

    private static void stampIsTheHardwareTime() {
        Due.by("a STAMP: that hardware time");
        MajorityClock clock = new MajorityClock(2, 0, 0);
        Due.is("the first stamp", clock.ask(0), 0);
        clock.advance(1);
        Due.is("the stamp at 1", clock.ask(1), 1);
        clock.advance(1000000);
        Due.is("the stamp much later", clock.ask(1), 1000001);
        MajorityClock late = new MajorityClock(2, 0, 0);
        late.advance(1000000);
        Due.is("the first stamp, late", late.ask(1), 1000000);
    }

    private static void stampIsOneMoreThanTheOneBefore() {
        Due.by("but at least one more than the stamp of the request made before it to any server (if there was one)");
        MajorityClock clock = new MajorityClock(3, 0, 0);
        Due.is("the first", clock.ask(0), 0);
        Due.is("to another at the same time", clock.ask(2), 1);
        Due.is("to the same at the same time", clock.ask(2), 2);
        clock.advance(1);
        Due.is("when the time is below the stamp before", clock.ask(1), 3);
        clock.advance(2);
        Due.is("when the time is the stamp before", clock.ask(1), 4);
        clock.advance(2);
        Due.is("when the time is one more", clock.ask(0), 5);
        clock.advance(2);
        Due.is("when the time is two more", clock.ask(0), 7);
    }

    private static void requestToNoServer() {
        Due.by("NOTHING when there is no such server.");
        MajorityClock clock = new MajorityClock(2, 0, 0);
        for (int s : NO_SERVERS) {
            Due.is("ask(" + s + ")", clock.ask(s), Rig.NOTHING);
        }
        Due.is("the first stamp is not used up", clock.ask(0), 0);
        for (int s : NO_SERVERS) {
            Due.is("ask(" + s + ")", clock.ask(s), Rig.NOTHING);
        }
        Due.is("the next stamp is not used up", clock.ask(1), 1);
    }

    private static void requestTakesThePlaceOfAPendingOne() {
        Due.by("It takes the place of a pending one.");
        MajorityClock clock = new MajorityClock(1, 0, 0);
        long first = clock.ask(0);
        clock.advance(10);
        long second = clock.ask(0);
        refused("to the replaced one", clock, first, 0, 0, MajorityClock.BOGUS);
        clock.advance(10);
        refused("hasty by the new request's time", clock, second, 0, 11, MajorityClock.HASTY);
        Due.is("reply to the new one", Rig.sealedReply(clock, 0, second, 0, 10), 1);
        Due.is("low(0)", clock.low(0), -10);
        Due.is("high(0)", clock.high(0), -10);
        refused("to the replaced one after that", clock, first, 0, 0, MajorityClock.BOGUS);
    }

    private static void requestsOfServersAreApart() {
        Due.by("Each has .. at most one PENDING request");
        MajorityClock clock = new MajorityClock(2, 0, 0);
        long first = clock.ask(0);
        long second = clock.ask(1);
        refused("with the other's origin", clock, second, 0, 0, MajorityClock.BOGUS);
        Due.is("reply of 0", Rig.sealedReply(clock, 0, first, 0, 0), 1);
        Due.is("reply of 1 with the other's origin", Rig.sealedReply(clock, 1, first, 0, 0), MajorityClock.BOGUS);
        Due.is("reply of 1", Rig.sealedReply(clock, 1, second, 0, 0), 1);
    }

    private static void unknown() {
        Due.by("UNKNOWN there is no such server");
        MajorityClock clock = new MajorityClock(2, 0, 0);
        clock.ask(0);
        clock.ask(1);
        int seal = clock.seal(1, 1, 0, 0);
        for (int s : NO_SERVERS) {
            Due.is("reply of " + s, clock.reply(s, 1, 0, 0, seal), MajorityClock.UNKNOWN);
        }
        Due.is("reply of 1", clock.reply(1, 1, 0, 0, seal), 1);
        Due.is("reply of 0", Rig.sealedReply(clock, 0, 0, 0, 0), 1);
    }

    private static void malformedOutsideTheTimes() {
        Due.by("MALFORMED received or sent is not 0 .. 2^40");
        long[][] wrong = {{-1, 0}, {-1, -1}, {-100, 0}, {LATEST, LATEST + 1}, {LATEST + 1, LATEST + 1},
            {LATEST + 1, LATEST}, {0, Long.MAX_VALUE}, {Long.MIN_VALUE, 0}, {Long.MIN_VALUE, Long.MAX_VALUE},
            {Long.MIN_VALUE, Long.MIN_VALUE}, {Long.MAX_VALUE, Long.MAX_VALUE}, {0, -1}};
        MajorityClock clock = waiting();
        for (long[] times : wrong) {
            refused("with " + times[0] + ", " + times[1], clock, 0, times[0], times[1], MajorityClock.MALFORMED);
        }
        Due.is("reply with 0, 0", Rig.sealedReply(clock, 0, 0, 0, 0), 1);
        Due.is("reply with 0, 100", Rig.sealedReply(waiting(), 0, 0, 0, 100), 1);
        Due.is("reply with 2^40 - 1, 2^40", Rig.sealedReply(waiting(), 0, 0, LATEST - 1, LATEST), 1);
        Due.is("reply with 2^40, 2^40", Rig.sealedReply(waiting(), 0, 0, LATEST, LATEST), 1);
        refused("with 0, 2^40 is not malformed", waiting(), 0, 0, LATEST, MajorityClock.HASTY);
    }

    private static void malformedWhenReceivedAfterSent() {
        Due.by("or received is greater than sent");
        MajorityClock clock = waiting();
        refused("one after", clock, 0, 51, 50, MajorityClock.MALFORMED);
        refused("one after, least", clock, 0, 1, 0, MajorityClock.MALFORMED);
        refused("one after, greatest", clock, 0, LATEST, LATEST - 1, MajorityClock.MALFORMED);
        refused("farthest after", clock, 0, LATEST, 0, MajorityClock.MALFORMED);
        Due.is("reply with both equal", Rig.sealedReply(clock, 0, 0, 50, 50), 1);
        Due.is("reply with one before", Rig.sealedReply(waiting(), 0, 0, 50, 51), 1);
    }

    private static void forged() {
        Due.by("FORGED the seal is not that of origin, received, sent under the server's key");
        MajorityClock clock = waiting();
        clock.key(0, 77);
        int right = clock.seal(0, 0, 5, 6);
        for (int bit = 0; bit < 32; bit++) {
            Due.is("reply with bit " + bit + " wrong", clock.reply(0, 0, 5, 6, right ^ (1 << bit)),
                    MajorityClock.FORGED);
        }
        Due.is("one above", clock.reply(0, 0, 5, 6, right + 1), MajorityClock.FORGED);
        Due.is("one below", clock.reply(0, 0, 5, 6, right - 1), MajorityClock.FORGED);
        Due.is("another origin", clock.reply(0, 0, 5, 6, clock.seal(0, 1, 5, 6)), MajorityClock.FORGED);
        Due.is("another received", clock.reply(0, 0, 5, 6, clock.seal(0, 0, 4, 6)), MajorityClock.FORGED);
        Due.is("another sent", clock.reply(0, 0, 5, 6, clock.seal(0, 0, 5, 7)), MajorityClock.FORGED);
        clock.key(0, 78);
        Due.is("another key", clock.reply(0, 0, 5, 6, right), MajorityClock.FORGED);
        clock.key(0, 77);
        Due.is("the right one", clock.reply(0, 0, 5, 6, right), 1);
    }

    private static void duplicate() {
        Due.by("DUPLICATE there was an accepted reply of s, and the origin is that of the latest one");
        MajorityClock clock = waiting();
        Rig.sealedReply(clock, 0, 0, 5, 6);
        refused("the same again", clock, 0, 5, 6, MajorityClock.DUPLICATE);
        refused("with other times", clock, 0, 7, 9, MajorityClock.DUPLICATE);
        refused("with the origin one above", clock, 1, 5, 6, MajorityClock.BOGUS);
        refused("with the origin one below", clock, -1, 5, 6, MajorityClock.BOGUS);
        clock.ask(0);
        refused("the same, another pending", clock, 0, 5, 6, MajorityClock.DUPLICATE);
    }

    private static void duplicateOfTheLatestOnly() {
        Due.by("the origin is that of the latest one");
        MajorityClock clock = new MajorityClock(2, 0, 0);
        long first = clock.ask(0);
        Rig.sealedReply(clock, 0, first, 0, 0);
        long second = clock.ask(0);
        Due.is("reply to the second", Rig.sealedReply(clock, 0, second, 0, 0), 2);
        refused("to the first again", clock, first, 0, 0, MajorityClock.BOGUS);
        refused("to the second again", clock, second, 0, 0, MajorityClock.DUPLICATE);
        Due.is("reply of the other server", Rig.sealedReply(clock, 1, second, 0, 0), MajorityClock.BOGUS);
        for (int i = 3; i <= 20; i++) {
            long origin = clock.ask(0);
            Rig.sealedReply(clock, 0, origin, 0, 0);
            refused("again, after many", clock, origin, 0, 0, MajorityClock.DUPLICATE);
        }
    }

    private static void noDuplicateBeforeTheFirst() {
        Due.by("DUPLICATE there was an accepted reply of s");
        MajorityClock clock = new MajorityClock(2, 0, 0);
        long[] origins = {0, -1, 1, Long.MIN_VALUE, Long.MAX_VALUE, Rig.NOTHING};
        for (long origin : origins) {
            refused("before any", clock, origin, 0, 0, MajorityClock.BOGUS);
        }
        clock.ask(1);
        Rig.sealedReply(clock, 1, 0, 0, 0);
        refused("after one of the other", clock, 0, 0, 0, MajorityClock.BOGUS);
        MajorityClock asked = new MajorityClock(1, 0, 0);
        asked.ask(0);
        Due.is("reply to the stamp 0", Rig.sealedReply(asked, 0, 0, 0, 0), 1);
    }

    private static void bogusWithoutARequest() {
        Due.by("BOGUS s has no pending request");
        MajorityClock clock = waiting();
        Rig.sealedReply(clock, 0, 0, 5, 6);
        clock.ask(0);
        Rig.sealedReply(clock, 0, 100, 5, 5);
        refused("to a request answered before the latest", clock, 0, 5, 5, MajorityClock.BOGUS);
        refused("to the stamp that would be next", clock, 101, 5, 5, MajorityClock.BOGUS);
        clock.ask(0);
        Due.is("reply to the next stamp", Rig.sealedReply(clock, 0, 101, 5, 5), 3);
    }

    private static void bogusWithAnotherOrigin() {
        Due.by("or the origin is not its stamp");
        MajorityClock clock = new MajorityClock(2, 0, 0);
        clock.advance(50);
        clock.ask(1);
        Due.is("the stamp", clock.ask(0), 51);
        refused("to one below", clock, 50, 0, 0, MajorityClock.BOGUS);
        refused("to one above", clock, 52, 0, 0, MajorityClock.BOGUS);
        refused("to the least long", clock, Long.MIN_VALUE, 0, 0, MajorityClock.BOGUS);
        refused("to the greatest long", clock, Long.MAX_VALUE, 0, 0, MajorityClock.BOGUS);
        refused("to the stamp and 2^32", clock, 51 + (1L << 32), 0, 0, MajorityClock.BOGUS);
        Due.is("reply to the stamp", Rig.sealedReply(clock, 0, 51, 0, 0), 1);
    }

    private static void hasty() {
        Due.by("HASTY sent - received is more than H - t, t being the hardware time of the pending request");
        MajorityClock clock = waiting();
        refused("by one", clock, 0, 50, 151, MajorityClock.HASTY);
        refused("by very much", clock, 0, 0, LATEST, MajorityClock.HASTY);
        refused("by 2^32", clock, 0, 0, 1L << 32, MajorityClock.HASTY);
        Due.is("reply just not hasty", Rig.sealedReply(clock, 0, 0, 50, 150), 1);
        MajorityClock at = new MajorityClock(1, 0, 0);
        at.ask(0);
        refused("by one, at once", at, 0, 0, 1, MajorityClock.HASTY);
        at.advance(1);
        Due.is("the same reply one tick later", Rig.sealedReply(at, 0, 0, 0, 1), 1);
    }

    private static void hastyCountsFromTheTimeNotTheStamp() {
        Due.by("t being the hardware time of the pending request");
        MajorityClock clock = new MajorityClock(2, 0, 0);
        for (int i = 0; i < 30; i++) {
            clock.ask(1);
        }
        Due.is("the stamp", clock.ask(0), 30);
        clock.advance(10);
        refused("by one", clock, 30, 0, 11, MajorityClock.HASTY);
        Due.is("reply just not hasty", Rig.sealedReply(clock, 0, 30, 0, 10), 1);
        Due.is("low(0)", clock.low(0), 0);
        Due.is("high(0)", clock.high(0), 0);
    }

    private static void firstReasonIsTold() {
        Due.by("It is refused with the first of these that is so");
        MajorityClock clock = new MajorityClock(1, 0, 0);
        Due.is("unknown and malformed", clock.reply(1, 7, 5, 4, 1), MajorityClock.UNKNOWN);
        Due.is("unknown and forged", clock.reply(-1, 7, 0, 4, 1), MajorityClock.UNKNOWN);
        Due.is("malformed and forged", clock.reply(0, 7, 5, 4, 1), MajorityClock.MALFORMED);
        Due.is("forged and bogus", clock.reply(0, 7, 0, 4, 1), MajorityClock.FORGED);
        clock.ask(0);
        refused("bogus and hasty", clock, 7, 0, 4, MajorityClock.BOGUS);
        Due.is("forged and hasty", clock.reply(0, 0, 0, 4, 1), MajorityClock.FORGED);
        refused("malformed and bogus", clock, 7, 5, 4, MajorityClock.MALFORMED);
        refused("malformed and hasty", clock, 0, -5, 0, MajorityClock.MALFORMED);
        refused("hasty alone", clock, 0, 0, 4, MajorityClock.HASTY);
        Rig.sealedReply(clock, 0, 0, 4, 4);
        refused("malformed and duplicate", clock, 0, 5, 4, MajorityClock.MALFORMED);
        Due.is("forged and duplicate", clock.reply(0, 0, 4, 4, 1), MajorityClock.FORGED);
        refused("duplicate and bogus", clock, 0, 4, 4, MajorityClock.DUPLICATE);
        clock.ask(0);
        refused("duplicate, bogus and hasty", clock, 0, 0, 4, MajorityClock.DUPLICATE);
    }

    private static void acceptedIsPendingNoMore() {
        Due.by("Otherwise it is ACCEPTED: the request is pending no more");
        MajorityClock clock = new MajorityClock(1, 0, 0);
        long first = clock.ask(0);
        Rig.sealedReply(clock, 0, first, 0, 0);
        long second = clock.ask(0);
        Rig.sealedReply(clock, 0, second, 0, 0);
        refused("to the second again", clock, second, 0, 0, MajorityClock.DUPLICATE);
        long third = clock.ask(0);
        refused("to the second, the third pending", clock, second, 0, 0, MajorityClock.DUPLICATE);
        Due.is("reply to the third", Rig.sealedReply(clock, 0, third, 0, 0), 3);
        refused("to the second, none pending", clock, second, 0, 0, MajorityClock.BOGUS);
    }

    private static void endsOfTheSample() {
        Due.by("a new sample with the LOW END sent - H, the HIGH END received - t, and H as its time");
        MajorityClock clock = new MajorityClock(1, 1000, 0);
        clock.advance(300);
        clock.ask(0);
        clock.advance(2000);
        Due.is("reply", Rig.sealedReply(clock, 0, 300, 310, 2303), 1);
        Due.is("low(0)", clock.low(0), 3);
        Due.is("high(0)", clock.high(0), 10);
        clock.advance(1);
        Due.is("low(0) one tick after H", clock.low(0), 2);
        Due.is("high(0) one tick after H", clock.high(0), 11);
        MajorityClock least = new MajorityClock(1, 0, 0);
        least.advance(1000000);
        least.ask(0);
        least.advance(1000000);
        Due.is("reply with the least times", Rig.sealedReply(least, 0, 1000000, 0, 0), 1);
        Due.is("low(0) below zero", least.low(0), -2000000);
        Due.is("high(0) below zero", least.high(0), -1000000);
        MajorityClock greatest = new MajorityClock(1, 0, 0);
        greatest.ask(0);
        Due.is("reply with the greatest times", Rig.sealedReply(greatest, 0, 0, LATEST, LATEST), 1);
        Due.is("low(0) at 2^40", greatest.low(0), LATEST);
        Due.is("high(0) at 2^40", greatest.high(0), LATEST);
    }

    private static void eightSamplesAtMost() {
        Due.by("Answers how many samples s has now, when it is accepted; (8 at most;)");
        MajorityClock clock = new MajorityClock(2, 0, 0);
        for (int i = 1; i <= 20; i++) {
            Due.is("reply " + i, Rig.sealedReply(clock, 0, clock.ask(0), 0, 0), Math.min(i, 8));
        }
        Due.is("the other has its own", Rig.sealedReply(clock, 1, clock.ask(1), 0, 0), 1);
        Due.is("the one again", Rig.sealedReply(clock, 0, clock.ask(0), 0, 0), 8);
    }
}
