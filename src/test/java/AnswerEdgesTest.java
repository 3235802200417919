import java.math.BigInteger;
import java.util.ArrayList;
import java.util.List;

/** The edges of what is answered, promise by promise: none, one, exactly half, all, full, and alike. */
final class AnswerEdgesTest {
    private static final int LEAST = 3;
    private static final int MOST = 7;

    private final Checks c;

    private AnswerEdgesTest(Checks c) {
        this.c = c;
    }

    static void run(Checks c) {
        AnswerEdgesTest t = new AnswerEdgesTest(c);
        t.promise1ANewObject();
        t.promise2TheLeastNumberOfMoreThanHalf();
        t.promise2AllAsAtFirst();
        t.promise3TheClockStays();
        t.promise4TheHarbourBefore();
        t.promise5OnlyTheRaisedOneFollowsAndKnowsNone();
        t.promise5RaisedWithoutEntries();
        t.promise8NoneAndAll();
        t.promise9HowManyHaveIt();
        t.promise10NoneAndAll();
        t.promise10OnlyTheFirstOnes();
        t.promise11NoneAndAll();
        t.promise11ALastTerm();
        t.promise12NoneLeads();
        t.promise12TheGreatestTerm();
        t.promise13NoneIsUp();
        t.promise13TheMostAndTheFewest();
        t.promise13TheLastCall();
        t.promise14MoreThanHalf();
        t.promise14TheNewestLog();
        t.promise15MoreThanHalf();
        t.promise15SoonAndLate();
        t.promise16TheLastHour();
        t.promise17TheLastHour();
        t.promise17TheSmallestOfSeveral();
        t.promise18NoneAndAll();
        t.promise19WrapsAround();
    }

    private void told(FleetTerms x, int boat, int... want) {
        for (int what = 0; what < want.length; what++) {
            c.same("told(" + boat + ", " + what + ")", x.told(boat, what), want[what]);
        }
    }

    private void counts(FleetTerms x, int... want) {
        for (int what = 0; what < want.length; what++) {
            c.same("count(" + what + ")", x.count(what), want[what]);
        }
    }

    // ---- the fleet

    private void promise1ANewObject() {
        FleetTerms x = new FleetTerms();
        c.same("the hour", x.count(0), 0);
        c.same("boats", x.count(1), 5);
        c.same("like fleet(5)", Answers.of(x), Answers.of(Scenes.fleetOf(5)));
    }

    private void promise2TheLeastNumberOfMoreThanHalf() {
        int[] least = {2, 3, 3, 4, 4};
        for (int boats = LEAST; boats <= MOST; boats++) {
            int more = new FleetTerms().fleet(boats);
            c.same("of " + boats, more, least[boats - LEAST]);
            c.same("so many are more than half", Scenes.upOf(Scenes.fleetOf(boats), more).harbour(0, 1), 1);
            c.same("one fewer are not", Scenes.upOf(Scenes.fleetOf(boats), more - 1).harbour(0, 1), 0);
        }
    }

    private void promise2AllAsAtFirst() {
        for (int boats = LEAST; boats <= MOST; boats++) {
            FleetTerms x = Scenes.allFull(boats);
            x.sink(0);
            x.go(1, 1);
            x.go(2, 2);
            x.setPatience(1, 9);
            x.pass(20);
            x.fleet(boats);
            counts(x, 0, boats, boats, 0, 0, 0, 0, 0, 0, 0);
            for (int boat = 0; boat < boats; boat++) {
                told(x, boat, 0, -1, 0, 0, 1, boat + 2, boat + 2, 0, 0, -1);
            }
            c.same("the next hours too", x.pass(2), 1);
            told(x, boats - 1, 1, 0, 0, 0, 1, boats + 1, boats + 1, 0, 0, -1);
        }
    }

    private void promise3TheClockStays() {
        FleetTerms x = Scenes.upOf(Scenes.fleetOf(7), 7);
        for (int boat = 0; boat < 7; boat++) {
            int first = boat + 2;
            c.same("the one before", x.setPatience(boat, 9), first);
            told(x, boat, 0, -1, 0, 0, 1, 9, first);
            c.same("the one before, 9", x.setPatience(boat, 2), 9);
            told(x, boat, 0, -1, 0, 0, 1, 2, first);
            c.same("the one before, 2", x.setPatience(boat, 2), 2);
        }
        c.same("boat 0 stands as its clock is 0", x.pass(2), 1);
        for (int boat = 0; boat < 7; boat++) {
            c.same("then the clock is the patience", x.told(boat, 6), 2);
        }
    }

    private void promise4TheHarbourBefore() {
        FleetTerms x = Scenes.fleetOf(3);
        int before = 0;
        for (int harbour : new int[] {0, 1, 1, 2, 2, 0, 2, 1, 0}) {
            c.same("the one before", x.go(2, harbour), before);
            c.same("its harbour", x.told(2, 3), harbour);
            c.same("the other ones stay", x.told(1, 3), 0);
            before = harbour;
        }
        c.same("all else stays", Answers.of(x), Answers.of(Scenes.fleetOf(3)));
    }

    private void promise5OnlyTheRaisedOneFollowsAndKnowsNone() {
        FleetTerms x = Scenes.allFull(3);
        c.same("sinks", x.sink(0), false);
        told(x, 0, 1, 0, 2, 0, 0, 2, 2, 10, 10, 1);
        x.setPatience(0, 9);
        x.go(0, 2);
        x.pass(1);
        told(x, 0, 1, 0, 2, 2, 0, 9, 2, 10, 10, 1);
        c.same("raises", x.sink(0), true);
        told(x, 0, 1, 0, 0, 2, 1, 9, 9, 10, 0, 1);
        told(x, 1, 1, 0, 0, 0, 1, 3, 2, 10, 10, 1);
        c.same("its catches are kept", x.entry(0, 9, 1), 99);
    }

    private void promise5RaisedWithoutEntries() {
        FleetTerms x = Scenes.standing(4);
        c.same("sinks", x.sink(0), false);
        c.same("raises", x.sink(0), true);
        told(x, 0, 1, 0, 0, 1, 1, 2, 2, 0, 0, -1);
        FleetTerms y = Scenes.fleetOf(4);
        for (int boat = 0; boat < 4; boat++) {
            c.same("sinks", y.sink(boat), false);
            c.same("boats that are up", y.count(2), 3 - boat);
        }
        for (int boat = 0; boat < 4; boat++) {
            c.same("raises", y.sink(boat), true);
        }
        c.same("all as it was", Answers.of(y), Answers.of(Scenes.fleetOf(4)));
    }

    // ---- what there is

    private void promise8NoneAndAll() {
        told(Scenes.fleetOf(7), 6, 0, -1, 0, 0, 1, 8, 8, 0, 0, -1);
        told(Scenes.allFull(7), 6, 1, 0, 0, 0, 1, 8, 8, 10, 10, 1);
        told(Scenes.allFull(7), 0, 1, 0, 2, 0, 1, 2, 2, 10, 10, 1);
        told(Scenes.upOf(Scenes.fleetOf(7), 6), 6, 0, -1, 0, 0, 0, 8, 8, 0, 0, -1);
    }

    private void promise9HowManyHaveIt() {
        for (int boats = LEAST; boats <= MOST; boats++) {
            for (int have = 1; have <= boats; have++) {
                FleetTerms x = Scenes.led(boats);
                x.write(0, 99);
                Scenes.hereOf(x, have);
                x.pass(1);
                c.same("its term", x.entry(0, 0, 0), 1);
                c.same("its catch", x.entry(0, 0, 1), 99);
                c.same(have + " of " + boats + " have it", x.entry(0, 0, 2), have);
                c.same("asked of the last one of them", x.entry(have - 1, 0, 2), have);
                Scenes.upOf(x, 0);
                c.same("sunk ones have it too", x.entry(0, 0, 2), have);
            }
        }
    }

    private void promise10NoneAndAll() {
        FleetTerms x = Scenes.full(7);
        c.same("10 and 10, the same one", x.agree(0, 0), 10);
        c.same("10 and none", x.agree(0, 6), 0);
        c.same("none and 10", x.agree(6, 0), 0);
        c.same("none and none", x.agree(5, 6), 0);
        c.same("none and none, the same one", x.agree(6, 6), 0);
        x.pass(9);
        c.same("10 and 9", x.agree(0, 6), 9);
        c.same("9 and 10", x.agree(6, 0), 9);
        c.same("9 and 9", x.agree(5, 6), 9);
        x.pass(1);
        c.same("10 and 10", x.agree(0, 6), 10);
    }

    // All have one entry of the term 1; then boat 0 has two more of that term, boat 1 two of the term 2.
    private static FleetTerms forked() {
        FleetTerms x = Scenes.led(3);
        x.write(0, 5);
        x.pass(1);
        x.go(0, 1);
        x.write(0, 6);
        x.write(0, 7);
        x.pass(3);
        x.write(1, 6);
        x.write(1, 7);
        return x;
    }

    private void promise10OnlyTheFirstOnes() {
        FleetTerms x = forked();
        c.same("boat 1 leads", x.leader(), 1);
        c.same("the first one is the same", x.agree(0, 1), 1);
        c.same("the other way round", x.agree(1, 0), 1);
        c.same("three have the first one", x.entry(0, 0, 2), 3);
        c.same("the second one is of another term", x.entry(0, 1, 2), 1);
        c.same("so is the third one", x.entry(1, 2, 2), 1);
    }

    private void promise11NoneAndAll() {
        FleetTerms x = Scenes.full(7);
        c.same("10 and none", x.newer(0, 6), true);
        c.same("none and 10", x.newer(6, 0), false);
        c.same("none and none", x.newer(5, 6), true);
        c.same("none, and itself", x.newer(6, 6), true);
        x.pass(1);
        c.same("1 and 10 of one term", x.newer(6, 0), false);
        c.same("1 and 1 of one term", x.newer(6, 5), true);
        x.pass(8);
        c.same("9 and 10 of one term", x.newer(6, 0), false);
        c.same("10 and 9 of one term", x.newer(0, 6), true);
        x.pass(1);
        c.same("10 and 10 of one term", x.newer(6, 0), true);
    }

    private void promise11ALastTerm() {
        FleetTerms x = Scenes.full(3);
        x.go(0, 1);
        x.pass(3);
        c.same("no entries, though of a greater term itself", x.newer(1, 0), false);
        x.write(1, 1);
        c.same("one entry of a greater term", x.newer(1, 0), true);
        c.same("10 of a smaller one", x.newer(0, 1), false);
    }

    private void promise12NoneLeads() {
        c.same("all follow", new FleetTerms().leader(), -1);
        c.same("one stands", Scenes.standing(3).leader(), -1);
        c.same("who leads is sunk", Scenes.sunkLeader(3).leader(), -1);
        c.same("none is up", Scenes.upOf(Scenes.led(7), 0).leader(), -1);
        c.same("one leads, and hears none", Scenes.upOf(Scenes.led(7), 1).leader(), 0);
    }

    private void promise12TheGreatestTerm() {
        FleetTerms x = Scenes.split();
        c.same("the terms 1 and 2", x.leader(), 1);
        FleetTerms y = Scenes.fleetOf(3);
        y.sink(0);
        y.pass(3);
        y.go(1, 1);
        y.sink(0);
        y.pass(4);
        c.same("two lead", y.count(3), 2);
        c.same("the terms 2 and 1", y.leader(), 0);
        // One that stands with a greater term does not lead.
        FleetTerms z = Scenes.led(5);
        z.go(4, 1);
        z.pass(12);
        c.same("the term of boat 4", z.told(4, 0), 3);
        c.same("the greatest term of all", z.count(4), 3);
        c.same("of those that lead", z.leader(), 0);
    }

    private void promise13NoneIsUp() {
        FleetTerms x = Scenes.upOf(Scenes.allFull(7), 0);
        counts(x, 13, 7, 0, 0, 1, 1, 1, 0, 10, 10);
        for (int boat = 0; boat < 7; boat++) {
            x.sink(boat);
            counts(x, 13, 7, boat + 1, 0, 1, 1, 1, 0, boat < 6 ? 10 : 0, 0);
        }
    }

    private void promise13TheMostAndTheFewest() {
        FleetTerms x = Scenes.full(7);
        for (int hour = 1; hour <= 12; hour++) {
            x.pass(1);
            c.same("the most", x.count(8), Math.min(hour, 10));
            c.same("the fewest", x.count(9), Math.min(hour - 1, 10));
        }
        Scenes.restart(x, 6);
        c.same("the most, but for one", x.count(8), 10);
        c.same("the fewest is that of one", x.count(9), 0);
        x.sink(6);
        c.same("also of a sunk one", x.count(9), 0);
    }

    // An object is used for at most 512 calls: 4 boats sink, and boat 0 stands in each second hour.
    private void promise13TheLastCall() {
        FleetTerms x = new FleetTerms();
        for (int boat = 1; boat < 5; boat++) {
            x.sink(boat);
        }
        for (int call = 5; call <= 511; call++) {
            x.pass(50);
        }
        c.same("the 512th call", x.count(4), 507 * 25);
    }

    private void promise14MoreThanHalf() {
        for (int boats = LEAST; boats <= MOST; boats++) {
            for (int here = 0; here <= boats; here++) {
                String of = here + " of " + boats;
                harbourHas(of + " are up", Scenes.upOf(Scenes.fleetOf(boats), here), 0, here, boats);
                FleetTerms x = Scenes.hereOf(Scenes.fleetOf(boats), here);
                harbourHas(of + " are here", x, 0, here, boats);
                harbourHas(of + " are not there", x, 1, boats - here, boats);
                harbourHas("none of " + boats, x, 2, 0, boats);
            }
        }
    }

    private void harbourHas(String what, FleetTerms x, int harbour, int here, int boats) {
        c.same(what + ": up", x.harbour(harbour, 0), here);
        c.same(what + ": more than half", x.harbour(harbour, 1), 2 * here > boats ? 1 : 0);
        int smallest = harbour == 0 ? 0 : boats - here;
        c.same(what + ": the smallest of those alike", x.harbour(harbour, 2), here == 0 ? -1 : smallest);
    }

    private void promise14TheNewestLog() {
        FleetTerms x = Scenes.full(3);
        c.same("10, none, none", x.harbour(0, 2), 0);
        x.go(0, 2);
        c.same("none, none", x.harbour(0, 2), 1);
        c.same("10", x.harbour(2, 2), 0);
        c.same("no boat", x.harbour(1, 2), -1);
        FleetTerms y = Scenes.split();
        c.same("1 and 1 of the term 2", y.harbour(0, 2), 1);
        y.write(1, 5);
        y.go(0, 0);
        c.same("3 of the term 1, 2 and 1 of the term 2", y.harbour(0, 2), 1);
        y.sink(1);
        c.same("3 of the term 1, 1 of the term 2", y.harbour(0, 2), 2);
        FleetTerms z = Scenes.fleetOf(3);
        z.sink(0);
        z.pass(3);
        z.sink(0);
        z.write(1, 1);
        c.same("none, 1, none", z.harbour(0, 2), 1);
    }

    // ---- what would be

    private void promise15MoreThanHalf() {
        for (int boats = LEAST; boats <= MOST; boats++) {
            for (int here = 1; here <= boats; here++) {
                boolean more = 2 * here > boats;
                String of = here + " of " + boats;
                c.same(of + " are up", Scenes.upOf(Scenes.fleetOf(boats), here).until(), more ? 2 : -1);
                c.same(of + " are up, and led", Scenes.upOf(Scenes.led(boats), here).until(), more ? 0 : -1);
                c.same("an hour before", hourBefore(boats, here).until(), more ? 1 : -1);
                FleetTerms x = Scenes.hereOf(Scenes.led(boats), here);
                // Otherwise the boats of the harbour 1 may be more than half, of which the first one stands.
                int there = 2 * (boats - here) > boats ? here + 2 : -1;
                c.same(of + " are here", x.until(), more ? 0 : there);
            }
        }
        c.same("none is up", Scenes.upOf(Scenes.led(3), 0).until(), -1);
    }

    private static FleetTerms hourBefore(int boats, int up) {
        FleetTerms x = Scenes.upOf(Scenes.fleetOf(boats), up);
        x.pass(1);
        return x;
    }

    /**
     * Boat 0 has the newer log, boat 2 a greater term, both a clock of 9, and boat 1 is sunk: in 9 hours
     * boat 0 hears of the greater term, and boat 2 has no vote; in 18 boat 0 has both.
     */
    private static FleetTerms slowest() {
        FleetTerms x = Scenes.fleetOf(3);
        x.go(2, 1);
        x.pass(2);
        x.write(0, 5);
        x.sink(1);
        x.pass(10);
        x.setPatience(0, 9);
        x.setPatience(2, 9);
        Scenes.restart(x, 0);
        Scenes.restart(x, 2);
        x.go(2, 0);
        return x;
    }

    // More than 18 hours can't be: within 9 the boat of the greatest term has stood, or has been asked with one
    // as great, and all in its harbour have one term then; within 9 more one with the newest log stands, and
    // has all votes. So the limit of 60 is never met.
    private void promise15SoonAndLate() {
        FleetTerms x = slowest();
        c.same("the term of boat 0", x.told(0, 0), 1);
        c.same("the term of boat 2", x.told(2, 0), 3);
        for (int hour = 0; hour < 18; hour++) {
            c.same("until, at the hour " + hour, x.until(), 18 - hour);
            c.same("none leads", x.count(3), 0);
            x.pass(1);
        }
        c.same("boat 0 leads", x.leader(), 0);
        c.same("until, then", x.until(), 0);
        told(x, 0, 5, 0, 2, 0, 1, 9, 9, 1, 0, 1);
    }

    private void promise16TheLastHour() {
        FleetTerms x = Scenes.upOf(Scenes.fleetOf(3), 1);
        x.setPatience(0, 5);
        Scenes.restart(x, 0);
        c.same("stood in 4 hours", x.foresee(4, 5), 0);
        c.same("stood in 5", x.foresee(5, 5), 1);
        c.same("stood in 49", x.foresee(49, 5), 9);
        c.same("stood in 50", x.foresee(50, 5), 10);
        c.same("the greatest term in 49", x.foresee(49, 4), 9);
        c.same("the greatest term in 50", x.foresee(50, 4), 10);
        FleetTerms y = Scenes.full(7);
        c.same("the most, in an hour", y.foresee(1, 8), 1);
        c.same("the fewest, in an hour", y.foresee(1, 9), 0);
        c.same("the most, in 9", y.foresee(9, 8), 9);
        c.same("the most, in 10", y.foresee(10, 8), 10);
        c.same("the fewest, in 10", y.foresee(10, 9), 9);
        c.same("the fewest, in 50", y.foresee(50, 9), 10);
        FleetTerms z = Scenes.full(3);
        z.go(0, 1);
        z.pass(3);
        z.go(0, 0);
        c.same("lost in an hour", z.foresee(1, 7), 1);
        c.same("lost in 9", z.foresee(9, 7), 9);
        c.same("lost in 50", z.foresee(50, 7), 10);
    }

    /**
     * Boat 1 leads in such a harbour, knows 9 of its 10 entries, and boat 2, which has 9 too, is sunk. Boat 0
     * has 10 others: to lose these it needs 10 hours there, and then 10 more for the last one of boat 1.
     */
    private static FleetTerms tenToLose(int harbour) {
        FleetTerms x = Scenes.full(3);
        x.go(1, harbour);
        x.go(2, harbour);
        x.pass(3);
        for (int fish = 0; fish < 9; fish++) {
            x.write(1, fish);
        }
        x.pass(9);
        x.write(1, 9);
        x.sink(2);
        return x;
    }

    private void promise17TheLastHour() {
        for (int harbour = 1; harbour <= 2; harbour++) {
            FleetTerms x = tenToLose(harbour);
            c.same("9 are known", x.count(8), 9);
            c.same("in 1 hour all are the same", x.advise(0, 1), 0);
            c.same("in 19 hours too", x.advise(0, 19), 0);
            c.same("in 20 hours 10 would be known", x.advise(0, 20), harbour);
            c.same("to lead alone, or to go to boat 0", x.advise(1, 20), 0);
        }
    }

    /**
     * In the harbour 0 three boats of five could commit an entry in an hour, but for boat 4: its term is
     * greater, and who leads hears of it. In the harbours 1 and 2 it does no harm.
     */
    private void promise17TheSmallestOfSeveral() {
        FleetTerms x = Scenes.led(5);
        x.go(4, 1);
        x.go(3, 2);
        x.pass(6);
        x.write(0, 1);
        c.same("the harbours 1 and 2 are the same", x.advise(4, 1), 1);
        x.go(4, 2);
        c.same("also if it is in the harbour 2", x.advise(4, 1), 1);
        x.go(4, 0);
        c.same("or in the harbour 0", x.advise(4, 1), 1);
        for (int hours = 1; hours <= 20; hours++) {
            c.same("none has entries", new FleetTerms().advise(4, hours), 0);
            c.same("all are known", Scenes.allFull(3).advise(2, hours), 0);
        }
    }

    private void promise18NoneAndAll() {
        for (int boats = LEAST; boats <= MOST; boats++) {
            c.same("none", Scenes.fleetOf(boats).mean(), 0.0);
            c.same("entries, but none is known", Scenes.full(boats).mean(), 0.0);
            FleetTerms x = Scenes.full(boats);
            x.pass(1);
            c.same("who leads knows 1", x.mean(), 1.0 / boats);
            x.pass(9);
            c.same("who leads knows 10, the others 9", x.mean(), (10 + 9.0 * (boats - 1)) / boats);
            x.pass(1);
            c.same("all know 10", x.mean(), 10.0);
            Scenes.upOf(x, 0);
            c.same("all are sunk", x.mean(), 10.0);
            x.sink(0);
            c.same("one is raised", x.mean(), 10.0 * (boats - 1) / boats);
        }
    }

    private void promise19WrapsAround() {
        boolean negative = false;
        boolean positive = false;
        for (int boats = LEAST; boats <= MOST; boats++) {
            FleetTerms[] fleets = {
                Scenes.fleetOf(boats), Scenes.led(boats), Scenes.full(boats), Scenes.allFull(boats),
                Scenes.upOf(Scenes.full(boats), 0), Scenes.shrunk(boats), Scenes.hereOf(Scenes.full(boats), 2),
            };
            for (FleetTerms x : fleets) {
                BigInteger whole = wholeDigest(x);
                c.same("it is too great for 64 bits", whole.bitLength() > 64, true);
                c.same("it wraps around", x.digest(), whole.longValue());
                negative |= x.digest() < 0;
                positive |= x.digest() > 0;
            }
        }
        c.same("some wrap to less than 0", negative, true);
        c.same("some to more", positive, true);
    }

    private static BigInteger wholeDigest(FleetTerms x) {
        List<Integer> numbers = new ArrayList<>();
        for (int what = 0; what < 10; what++) {
            numbers.add(x.count(what));
        }
        int boats = x.count(1);
        for (int boat = 0; boat < boats; boat++) {
            for (int what = 0; what < 10; what++) {
                numbers.add(x.told(boat, what));
            }
            int entries = x.told(boat, 7);
            for (int place = 0; place < entries; place++) {
                for (int what = 0; what < 3; what++) {
                    numbers.add(x.entry(boat, place, what));
                }
            }
        }
        BigInteger d = BigInteger.valueOf(1759);
        for (int number : numbers) {
            d = d.multiply(BigInteger.valueOf(31)).add(BigInteger.valueOf(number));
        }
        return d;
    }
}
