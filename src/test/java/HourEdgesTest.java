/** The edges of an hour (promise 7, and "An hour goes like this" of the document), by answers worked out by hand. */
final class HourEdgesTest {
    private static final int LEAST = 3;
    private static final int MOST = 7;

    private final Checks c;

    private HourEdgesTest(Checks c) {
        this.c = c;
    }

    static void run(Checks c) {
        HourEdgesTest t = new HourEdgesTest(c);
        t.promise7ABoatStandsAsItsClockIs0();
        t.promise7TheClockOfWhoLeadsStays();
        t.promise7TheClockOfASunkOneStays();
        t.promise7OnlyThoseThatHearAreAsked();
        t.promise7AnAskedOneOfASmallerTerm();
        t.promise7AnAskedOneOfTheSameTermWithoutAVote();
        t.promise7AnAskedOneOfTheSameTermWithAVote();
        t.promise7AnAskedOneOfAGreaterTermBehindEnoughVotes();
        t.promise7TheAskersLogIsLongerButOfASmallerTerm();
        t.promise7TheAskersLogIsShorterOrLonger();
        t.promise7TheAskersLogIsTheSame();
        t.promise7VotesOfMoreThanHalf();
        t.promise7OnlyThoseThatHearAreTold();
        t.promise7WhoLedWithASmallerTermFollows();
        t.promise7TheLogIsNotLongerThanTheLogsAgree();
        t.promise7TheLogIsLongerThanTheLogsAgree();
        t.promise7AFullLogIsToldOneByOne();
        t.promise7AFullLogIsLostOneByOne();
        t.promise7KnownNoMoreThanTheLogsAgree();
        t.promise7KnownNoFewerThanBefore();
        t.promise7CommittedByMoreThanHalf();
        t.promise7TheGreatestNumberThatMoreThanHalfHave();
        t.promise7TheLastOneIsOfItsOwnTerm();
        t.promise7TheStepsOfOneHour();
        t.promise7NoneOneAndTwoBeginToLead();
    }

    private void told(FleetTerms x, int boat, int... want) {
        for (int what = 0; what < want.length; what++) {
            c.same("told(" + boat + ", " + what + ")", x.told(boat, what), want[what]);
        }
    }

    // ---- step 1

    private void promise7ABoatStandsAsItsClockIs0() {
        for (int patience = 2; patience <= 9; patience++) {
            FleetTerms x = Scenes.upOf(Scenes.fleetOf(3), 1);
            x.setPatience(0, patience);
            Scenes.restart(x, 0);
            x.pass(patience - 1);
            told(x, 0, 0, -1, 0, 0, 1, patience, 1);
            c.same("none stood with a clock of 1", x.count(5), 0);
            x.pass(1);
            told(x, 0, 1, 0, 1, 0, 1, patience, patience);
            c.same("one stood with a clock of 0", x.count(5), 1);
            x.pass(1);
            told(x, 0, 1, 0, 1, 0, 1, patience, patience - 1);
            c.same("it does not stand again", x.count(5), 1);
            x.pass(patience - 1);
            told(x, 0, 2, 0, 1, 0, 1, patience, patience);
            c.same("until its clock is 0 again", x.count(5), 2);
        }
    }

    private void promise7TheClockOfWhoLeadsStays() {
        FleetTerms x = Scenes.led(3);
        c.same("as it stood", x.told(0, 6), 2);
        x.pass(1);
        c.same("an hour later", x.told(0, 6), 2);
        x.pass(49);
        c.same("50 hours later", x.told(0, 6), 2);
        c.same("one stood", x.count(5), 1);
    }

    private void promise7TheClockOfASunkOneStays() {
        FleetTerms x = Scenes.upOf(Scenes.fleetOf(3), 0);
        c.same("none is up", x.pass(50), 0);
        told(x, 0, 0, -1, 0, 0, 0, 2, 2);
        told(x, 1, 0, -1, 0, 0, 0, 3, 3);
        told(x, 2, 0, -1, 0, 0, 0, 4, 4);
        c.same("none stood", x.count(5), 0);
        c.same("the hours went by", x.count(0), 50);
    }

    private void promise7OnlyThoseThatHearAreAsked() {
        FleetTerms x = Scenes.fleetOf(6);
        x.sink(3);
        x.go(4, 1);
        x.sink(5);
        x.go(5, 1);
        c.same("3 of 6 are not enough", x.pass(2), 0);
        told(x, 0, 1, 0, 1, 0, 1, 2, 2);
        told(x, 1, 1, 0, 0, 0, 1, 3, 2);
        told(x, 2, 1, 0, 0, 0, 1, 4, 3);
        told(x, 3, 0, -1, 0, 0, 0, 5, 5);
        told(x, 4, 0, -1, 0, 1, 1, 6, 4);
        told(x, 5, 0, -1, 0, 1, 0, 7, 7);
    }

    // Boat 0 leads with the term 1 as boat 1 asks it with the term 3.
    private void promise7AnAskedOneOfASmallerTerm() {
        FleetTerms x = Scenes.led(3);
        x.go(1, 1);
        x.pass(5);
        told(x, 1, 2, 1, 1, 1, 1, 3, 1);
        x.go(1, 0);
        c.same("boat 1 has both votes", x.pass(1), 1);
        told(x, 0, 3, 1, 0, 0, 1, 2, 2);
        told(x, 1, 3, 1, 2, 0, 1, 3, 3);
        told(x, 2, 3, 1, 0, 0, 1, 4, 4);
        c.same("one leads", x.count(3), 1);
        c.same("two began to", x.count(6), 2);
    }

    // Boat 2 asks boat 1 with an older log: a new term, no vote. Then boat 3 asks it with that term.
    private void promise7AnAskedOneOfTheSameTermWithoutAVote() {
        FleetTerms x = Scenes.led(5);
        x.setPatience(1, 9);
        x.setPatience(2, 2);
        x.write(0, 5);
        x.go(2, 1);
        x.pass(1);
        x.sink(0);
        x.sink(4);
        x.go(3, 2);
        x.go(2, 0);
        c.same("boat 2 stands", x.pass(3), 0);
        told(x, 2, 2, 2, 1, 0, 1, 2, 2, 0, 0, -1);
        told(x, 1, 2, -1, 0, 0, 1, 9, 6, 1, 0, 1);
        told(x, 3, 1, 0, 0, 2, 1, 5, 2, 1, 0, 1);
        x.sink(2);
        x.go(3, 0);
        c.same("boat 3 stands", x.pass(2), 0);
        told(x, 1, 2, 3, 0, 0, 1, 9, 9, 1, 0, 1);
        told(x, 3, 2, 3, 1, 0, 1, 5, 5, 1, 0, 1);
    }

    // Boat 2 has given boat 0 its vote in the term 1, as boat 1 asks it with that term.
    private void promise7AnAskedOneOfTheSameTermWithAVote() {
        FleetTerms x = Scenes.fleetOf(4);
        x.go(1, 1);
        x.sink(3);
        c.same("2 of 4 are not enough", x.pass(2), 0);
        told(x, 2, 1, 0, 0, 0, 1, 4, 3);
        x.sink(0);
        x.go(1, 0);
        c.same("boat 1 has its own vote alone", x.pass(1), 0);
        told(x, 1, 1, 1, 1, 0, 1, 3, 3);
        told(x, 2, 1, 0, 0, 0, 1, 4, 2);
        c.same("two stood", x.count(5), 2);
        c.same("none led", x.count(6), 0);
    }

    // Boat 0 has 4 votes of 5 as it hears of the greater term of boat 4.
    private void promise7AnAskedOneOfAGreaterTermBehindEnoughVotes() {
        FleetTerms x = Scenes.fleetOf(5);
        for (int boat = 0; boat < 4; boat++) {
            x.sink(boat);
        }
        x.pass(12);
        told(x, 4, 2, 4, 1, 0, 1, 6, 6);
        for (int boat = 0; boat < 4; boat++) {
            x.sink(boat);
        }
        c.same("it does not lead", x.pass(2), 0);
        told(x, 0, 2, -1, 0, 0, 1, 2, 2);
        told(x, 1, 1, 0, 0, 0, 1, 3, 2);
        told(x, 2, 1, 0, 0, 0, 1, 4, 3);
        told(x, 3, 1, 0, 0, 0, 1, 5, 4);
        told(x, 4, 2, 4, 1, 0, 1, 6, 4);
        c.same("none leads", x.count(3), 0);
        c.same("three times one stood", x.count(5), 3);
        c.same("none began to lead", x.count(6), 0);
    }

    // Boat 0 has 3 entries of the term 1, boat 2 has one of the term 2.
    private void promise7TheAskersLogIsLongerButOfASmallerTerm() {
        FleetTerms x = Scenes.split();
        x.sink(1);
        x.go(0, 0);
        x.pass(1);
        told(x, 0, 2, -1, 0, 0, 1, 2, 2, 3, 0, 1);
        c.same("boat 0 stands", x.pass(2), 0);
        told(x, 0, 3, 0, 1, 0, 1, 2, 2, 3, 0, 1);
        told(x, 2, 3, -1, 0, 0, 1, 4, 1, 1, 0, 2);
        c.same("the shorter one of the greater term has its vote", x.pass(1), 1);
        told(x, 0, 4, 2, 0, 0, 1, 2, 2, 2, 0, 1);
        told(x, 2, 4, 2, 2, 0, 1, 4, 4, 1, 0, 2);
        c.same("the log of boat 0 loses one", x.count(7), 1);
    }

    // Boat 1 has 2 entries of the term 1, boat 2 has the first of them.
    private void promise7TheAskersLogIsShorterOrLonger() {
        FleetTerms x = Scenes.led(3);
        x.write(0, 1);
        x.write(0, 2);
        x.pass(1);
        x.go(2, 1);
        x.pass(1);
        x.sink(0);
        x.go(2, 0);
        x.setPatience(1, 9);
        Scenes.restart(x, 1);
        c.same("boat 2 asks with the shorter one", x.pass(3), 0);
        told(x, 1, 2, -1, 0, 0, 1, 9, 6, 2, 0, 1);
        told(x, 2, 2, 2, 1, 0, 1, 4, 4, 1, 0, 1);
        c.same("boat 1 asks with the longer one", x.pass(6), 1);
        told(x, 1, 4, 1, 2, 0, 1, 9, 9, 2, 0, 1);
        told(x, 2, 4, 1, 0, 0, 1, 4, 4, 2, 0, 1);
        c.same("four times one stood", x.count(5), 4);
        c.same("two began to lead", x.count(6), 2);
    }

    private void promise7TheAskersLogIsTheSame() {
        FleetTerms x = Scenes.allFull(3);
        x.sink(0);
        c.same("10 entries, and the same 10", x.pass(3), 1);
        told(x, 1, 2, 1, 2, 0, 1, 3, 3, 10, 10, 1);
        told(x, 2, 2, 1, 0, 0, 1, 4, 4, 10, 10, 1);
        FleetTerms y = Scenes.fleetOf(3);
        c.same("none, and none", y.pass(2), 1);
    }

    private void promise7VotesOfMoreThanHalf() {
        for (int boats = LEAST; boats <= MOST; boats++) {
            for (int votes = 1; votes <= boats; votes++) {
                int begun = 2 * votes > boats ? 1 : 0;
                String of = votes + " votes of " + boats;
                c.same(of + ", the others are sunk", Scenes.upOf(Scenes.fleetOf(boats), votes).pass(2), begun);
                FleetTerms x = Scenes.hereOf(Scenes.fleetOf(boats), votes);
                c.same(of + ", the others are in another harbour", x.pass(2), begun);
                c.same(of + ": its role", x.told(0, 2), begun + 1);
                c.same(of + ": how many lead", x.count(3), begun);
            }
        }
    }

    // ---- step 2

    private void promise7OnlyThoseThatHearAreTold() {
        FleetTerms x = Scenes.led(6);
        x.write(0, 8);
        x.sink(3);
        x.go(4, 1);
        x.sink(5);
        x.go(5, 1);
        x.pass(1);
        int[] entries = {1, 1, 1, 0, 0, 0};
        int[] clocks = {2, 3, 4, 5, 5, 7};
        for (int boat = 0; boat < 6; boat++) {
            c.same("entries of boat " + boat, x.told(boat, 7), entries[boat]);
            c.same("clock of boat " + boat, x.told(boat, 6), clocks[boat]);
        }
        c.same("3 of 6 have it", x.told(0, 8), 0);
    }

    // Boat 1 leads with the term 1, and its log is 30; boat 0 leads with the term 2, and its log is 40.
    private void promise7WhoLedWithASmallerTermFollows() {
        FleetTerms x = Scenes.fleetOf(3);
        x.sink(0);
        c.same("boat 1 leads", x.pass(3), 1);
        x.write(1, 30);
        x.go(1, 1);
        x.sink(0);
        c.same("boat 0 leads in its second term", x.pass(4), 1);
        c.same("two lead", x.count(3), 2);
        c.same("the greatest term of them", x.leader(), 0);
        x.write(0, 40);
        x.go(1, 0);
        c.same("boat 0 tells them", x.pass(1), 0);
        told(x, 0, 2, 0, 2, 0, 1, 2, 2, 1, 1, 2);
        told(x, 1, 2, -1, 0, 0, 1, 3, 3, 0, 0, -1);
        told(x, 2, 2, 0, 0, 0, 1, 4, 4, 1, 0, 2);
        c.same("one leads", x.count(3), 1);
        c.same("one entry is lost", x.count(7), 1);
    }

    private void promise7TheLogIsNotLongerThanTheLogsAgree() {
        FleetTerms x = Scenes.led(3);
        x.pass(1);
        c.same("there is no next entry, of none", x.told(1, 7), 0);
        x.write(0, 1);
        x.write(0, 2);
        x.pass(1);
        c.same("the first one", x.told(1, 7), 1);
        x.pass(1);
        c.same("the second one", x.told(1, 7), 2);
        x.pass(1);
        c.same("there is no next entry, of two", x.told(1, 7), 2);
        c.same("they agree", x.agree(0, 1), 2);
        c.same("none is lost", x.count(7), 0);
    }

    // Boat 0 has 3 entries, of which none agrees with those of boat 1, which leads.
    private void promise7TheLogIsLongerThanTheLogsAgree() {
        FleetTerms x = Scenes.split();
        x.go(0, 0);
        int[] entries = {2, 1, 0, 1, 1};
        int[] lost = {1, 2, 3, 3, 3};
        int[] agree = {0, 0, 0, 1, 1};
        int[] known = {0, 0, 0, 1, 1};
        for (int hour = 0; hour < 5; hour++) {
            x.pass(1);
            c.same("entries in the hour " + hour, x.told(0, 7), entries[hour]);
            c.same("lost in the hour " + hour, x.count(7), lost[hour]);
            c.same("agree in the hour " + hour, x.agree(0, 1), agree[hour]);
            c.same("known in the hour " + hour, x.told(0, 8), known[hour]);
        }
    }

    private void promise7AFullLogIsToldOneByOne() {
        FleetTerms x = Scenes.full(7);
        for (int hour = 1; hour <= 12; hour++) {
            x.pass(1);
            int has = Math.min(hour, 10);
            c.same("entries of boat 6 in the hour " + hour, x.told(6, 7), has);
            c.same("boat 0 knows them at once", x.told(0, 8), has);
            c.same("boat 6 knows them in the hour after", x.told(6, 8), Math.min(hour - 1, 10));
            c.same("the catch", x.entry(6, has - 1, 1), 89 + has);
            c.same("seven have it", x.entry(3, has - 1, 2), 7);
        }
    }

    // Boat 0 has 10 entries which no other boat has, and boat 1 leads without any, then with 10.
    private void promise7AFullLogIsLostOneByOne() {
        FleetTerms x = Scenes.full(3);
        x.go(0, 1);
        c.same("boat 1 leads", x.pass(3), 1);
        x.go(0, 0);
        for (int lost = 1; lost <= 10; lost++) {
            x.pass(1);
            c.same("entries left", x.told(0, 7), 10 - lost);
            c.same("lost", x.count(7), lost);
        }
        x.pass(1);
        c.same("none to lose", x.told(0, 7), 0);
        c.same("10 are lost", x.count(7), 10);
        for (int fish = 0; fish < 10; fish++) {
            x.write(1, fish);
        }
        x.pass(11);
        told(x, 0, 2, -1, 0, 0, 1, 2, 2, 10, 10, 2);
        c.same("the last catch", x.entry(0, 9, 1), 9);
        c.same("10 are lost still", x.count(7), 10);
    }

    // Boat 2 was away as boats 0 and 1 got 3 entries, and came to know them to be committed.
    private void promise7KnownNoMoreThanTheLogsAgree() {
        FleetTerms x = Scenes.fleetOf(3);
        x.setPatience(2, 9);
        x.pass(2);
        x.write(0, 1);
        x.write(0, 2);
        x.write(0, 3);
        x.go(2, 1);
        x.pass(4);
        c.same("boat 0 knows 3", x.told(0, 8), 3);
        c.same("boat 1 knows 3", x.told(1, 8), 3);
        c.same("boat 2 knows none", x.told(2, 8), 0);
        x.go(2, 0);
        for (int hour = 1; hour <= 4; hour++) {
            x.pass(1);
            c.same("as many as it has", x.told(2, 7), Math.min(hour, 3));
            c.same("it knows", x.told(2, 8), Math.min(hour, 3));
        }
    }

    // Boat 0 was sunk and raised, knows none, and leads again: the others know one of the term before.
    private void promise7KnownNoFewerThanBefore() {
        FleetTerms x = Scenes.led(3);
        x.write(0, 1);
        x.pass(2);
        c.same("all know it", x.count(9), 1);
        Scenes.restart(x, 0);
        c.same("boat 0 leads again", x.pass(2), 1);
        told(x, 0, 2, 0, 2, 0, 1, 2, 2, 1, 0, 1);
        told(x, 1, 2, 0, 0, 0, 1, 3, 3, 1, 1, 1);
        told(x, 2, 2, 0, 0, 0, 1, 4, 4, 1, 1, 1);
        x.pass(9);
        c.same("boat 0 knows none, of its own term there is none", x.told(0, 8), 0);
        c.same("boat 1 knows it still", x.told(1, 8), 1);
    }

    // ---- step 3

    private void promise7CommittedByMoreThanHalf() {
        for (int boats = LEAST; boats <= MOST; boats++) {
            for (int have = 1; have <= boats; have++) {
                int known = 2 * have > boats ? 1 : 0;
                String of = have + " of " + boats + " have it";
                FleetTerms x = Scenes.led(boats);
                x.write(0, 1);
                Scenes.upOf(x, have);
                x.pass(1);
                c.same(of + ", the others are sunk", x.told(0, 8), known);
                FleetTerms y = Scenes.led(boats);
                y.write(0, 1);
                Scenes.hereOf(y, have);
                y.pass(1);
                c.same(of + ", the others are in another harbour", y.told(0, 8), known);
            }
        }
    }

    // Boats 0 and 1 have 3 entries; boat 2, the third of 5, gets them one by one.
    private void promise7TheGreatestNumberThatMoreThanHalfHave() {
        FleetTerms x = Scenes.led(5);
        x.write(0, 1);
        x.write(0, 2);
        x.write(0, 3);
        x.sink(3);
        x.sink(4);
        x.go(2, 1);
        x.pass(2);
        c.same("2 of 5 have 2", x.told(0, 8), 0);
        x.go(2, 0);
        x.pass(1);
        c.same("3 of 5 have 1, 2 have 3", x.told(0, 8), 1);
        x.pass(1);
        c.same("3 of 5 have 2, 2 have 3", x.told(0, 8), 2);
        x.pass(1);
        c.same("3 of 5 have 3", x.told(0, 8), 3);
        x.sink(2);
        x.pass(3);
        c.same("no fewer than before", x.told(0, 8), 3);
    }

    // Boat 0 leads again, with the term 2: its log has one entry of the term 1, then one of the term 2.
    private void promise7TheLastOneIsOfItsOwnTerm() {
        FleetTerms x = Scenes.led(3);
        x.write(0, 1);
        x.pass(1);
        Scenes.restart(x, 0);
        x.pass(2);
        c.same("all have the first one", x.entry(0, 0, 2), 3);
        c.same("it is of an earlier term", x.told(0, 8), 0);
        x.write(0, 2);
        x.sink(1);
        x.sink(2);
        x.pass(1);
        c.same("boat 0 alone has that of its own term", x.told(0, 8), 0);
        x.sink(1);
        x.pass(1);
        c.same("2 of 3 have it: both are known", x.told(0, 8), 2);
        c.same("boat 1 has it", x.told(1, 7), 2);
        c.same("and does not know it yet", x.told(1, 8), 0);
    }

    // ---- all steps

    private void promise7TheStepsOfOneHour() {
        FleetTerms x = Scenes.sunkLeader(3);
        x.pass(2);
        told(x, 1, 1, 0, 0, 0, 1, 3, 1, 1, 0, 1);
        told(x, 2, 1, 0, 0, 0, 1, 4, 2, 1, 0, 1);
        c.same("in one hour boat 1 stands, leads,", x.pass(1), 1);
        told(x, 1, 2, 1, 2, 0, 1, 3, 3, 1, 0, 1);
        // By the vote its clock was 4, by its own turn 3, as it was told 4.
        c.same("and tells boat 2", x.told(2, 6), 4);
        x.write(1, 7);
        x.pass(1);
        c.same("an entry is told and committed in one hour", x.told(1, 8), 2);
        c.same("who is told knows it an hour later", x.told(2, 8), 0);
        c.same("the hour", x.count(0), 7);
    }

    // Boat 1 alone has an entry. Boat 0 leads with the vote of boat 2, then boat 1 stands in the same hour.
    private void promise7NoneOneAndTwoBeginToLead() {
        FleetTerms x = Scenes.fleetOf(3);
        x.setPatience(0, 9);
        Scenes.restart(x, 0);
        c.same("none in 2 hours", x.pass(2), 0);
        c.same("one in the third", x.pass(1), 1);
        x.write(1, 5);
        Scenes.restart(x, 1);
        x.setPatience(0, 3);
        Scenes.restart(x, 0);
        c.same("foreseen", x.foresee(3, 6), 3);
        c.same("none in 2 hours", x.pass(2), 0);
        c.same("two in one hour", x.pass(1), 2);
        told(x, 0, 3, 1, 0, 0, 1, 3, 3, 1, 0, 1);
        told(x, 1, 3, 1, 2, 0, 1, 3, 3, 1, 0, 1);
        told(x, 2, 3, 1, 0, 0, 1, 4, 4, 1, 0, 1);
        c.same("one leads", x.count(3), 1);
        c.same("three began to, in all", x.count(6), 3);
    }
}
