/** Each promise of the document by answers worked out by hand: ordinary inputs, edges, wrong inputs. */
final class PromisesTest {
    private static final Class<?> INDEX = IndexOutOfBoundsException.class;
    private static final Class<?> ARGUMENT = IllegalArgumentException.class;
    private static final Class<?> STATE = IllegalStateException.class;
    private static final int MIN = Integer.MIN_VALUE;
    private static final int MAX = Integer.MAX_VALUE;

    private final Checks c;

    private PromisesTest(Checks c) {
        this.c = c;
    }

    static void run(Checks c) {
        PromisesTest t = new PromisesTest(c);
        t.promise1NewObject();
        t.promise2Fleet();
        t.promise3SetPatience();
        t.promise4Go();
        t.promise5Sink();
        t.promise6Write();
        t.promise7Pass();
        t.promise7AVoteRestartsTheClock();
        t.promise7VotesByNumbers();
        t.promise7OneVoteATerm();
        t.promise7WhoStoodFollows();
        t.promise7NoVoteForAnOlderLog();
        t.promise7AskerMeetsAGreaterTerm();
        t.promise7TellerMeetsAGreaterTerm();
        t.promise7LogsAreCutAndFilled();
        t.promise7OnlyEntriesOfTheOwnTermAreCommitted();
        t.promise7MoreThanHalfOfAllBoats();
        t.promise7OnlyThoseThatHearCount();
        t.promise8Told();
        t.promise9Entry();
        t.promise10Agree();
        t.promise11Newer();
        t.promise12Leader();
        t.promise13Count();
        t.promise14Harbour();
        t.promise15Until();
        t.promise16Foresee();
        t.promise17Advise();
        t.promise18Mean();
        t.promise19Digest();
        t.theGreatestFleet();
        t.afterTheGreatestFleet();
        t.theExampleOfTheReadme();
    }

    // ---- helpers

    private void told(FleetTerms x, int boat, int... want) {
        for (int what = 0; what < want.length; what++) {
            c.same("told(" + boat + ", " + what + ")", x.told(boat, what), want[what]);
        }
    }

    private void counts(FleetTerms x, int... want) {
        for (int what = 0; what < want.length; what++) {
            c.same("count(" + what + ")", x.count(what), want[what]);
        }
    }

    // ---- the promises

    private void promise1NewObject() {
        FleetTerms x = new FleetTerms();
        counts(x, 0, 5, 5, 0, 0, 0, 0, 0, 0, 0);
        told(x, 0, 0, -1, 0, 0, 1, 2, 2, 0, 0, -1);
        told(x, 1, 0, -1, 0, 0, 1, 3, 3, 0, 0, -1);
        told(x, 2, 0, -1, 0, 0, 1, 4, 4, 0, 0, -1);
        told(x, 3, 0, -1, 0, 0, 1, 5, 5, 0, 0, -1);
        told(x, 4, 0, -1, 0, 0, 1, 6, 6, 0, 0, -1);
        FleetTerms y = new FleetTerms();
        long before = y.digest();
        x.pass(9);
        c.same("another object stays", y.digest(), before);
    }

    private void promise2Fleet() {
        FleetTerms x = new FleetTerms();
        int[] halves = {2, 3, 3, 4, 4};
        for (int boats = 3; boats <= 7; boats++) {
            c.same("fleet(" + boats + ")", x.fleet(boats), halves[boats - 3]);
            counts(x, 0, boats, boats, 0, 0, 0, 0, 0, 0, 0);
        }
        told(x, 6, 0, -1, 0, 0, 1, 8, 8, 0, 0, -1);
        x.pass(2);
        x.write(0, 5);
        x.pass(3);
        x.setPatience(1, 9);
        x.go(2, 2);
        x.sink(3);
        x.fleet(5);
        c.same("all as at first", x.digest(), new FleetTerms().digest());
        x.fleet(7);
        c.same("also boats that were not there", x.digest(), Scenes.fleetOf(7).digest());
        FleetTerms y = Scenes.split();
        y.go(0, 0);
        y.pass(3);
        c.same("entries were lost", y.count(7), 3);
        y.fleet(3);
        c.same("what was counted begins anew", y.digest(), Scenes.fleetOf(3).digest());
        y.pass(2);
        y.write(0, 10);
        c.same("entries of the fleet before are gone", y.agree(0, 1), 0);
        for (int wrong : new int[] {2, 8, 0, -1, -3, MIN, MAX}) {
            c.fails("fleet(" + wrong + ")", x, ARGUMENT, () -> x.fleet(wrong));
        }
    }

    private void promise3SetPatience() {
        FleetTerms x = new FleetTerms();
        c.same("setPatience(4, 9)", x.setPatience(4, 9), 6);
        c.same("its clock stays", x.told(4, 6), 6);
        c.same("its patience", x.told(4, 5), 9);
        c.same("setPatience(4, 2)", x.setPatience(4, 2), 9);
        c.same("setPatience(4, 9) again", x.setPatience(4, 9), 2);
        c.same("setPatience(0, 7)", x.setPatience(0, 7), 2);
        x.pass(2);
        c.same("the new patience for who stood", x.told(0, 6), 7);
        c.same("the new patience for who was told", x.told(4, 6), 9);
        for (int boat : new int[] {5, -1, MIN, MAX}) {
            c.fails("no boat " + boat, x, INDEX, () -> x.setPatience(boat, 4));
            c.fails("no boat " + boat + ", nor patience", x, INDEX, () -> x.setPatience(boat, 1));
        }
        for (int patience : new int[] {1, 10, 0, -1, MIN, MAX}) {
            c.fails("patience " + patience, x, ARGUMENT, () -> x.setPatience(0, patience));
        }
    }

    private void promise4Go() {
        FleetTerms x = new FleetTerms();
        c.same("go(4, 2)", x.go(4, 2), 0);
        c.same("go(4, 1)", x.go(4, 1), 2);
        c.same("go(4, 1) again", x.go(4, 1), 1);
        c.same("its harbour", x.told(4, 3), 1);
        x.sink(4);
        c.same("a sunk one goes too", x.go(4, 0), 1);
        c.same("its harbour then", x.told(4, 3), 0);
        for (int wrong : new int[] {5, -1, MIN, MAX}) {
            c.fails("go(" + wrong + ", 0)", x, INDEX, () -> x.go(wrong, 0));
            c.fails("go(0, " + wrong + ")", x, INDEX, () -> x.go(0, wrong));
        }
        c.fails("go(0, 3)", x, INDEX, () -> x.go(0, 3));
    }

    private void promise5Sink() {
        FleetTerms x = Scenes.led(5);
        x.write(0, 7);
        x.pass(1);
        c.same("sinks", x.sink(0), false);
        told(x, 0, 1, 0, 2, 0, 0, 2, 2, 1, 1, 1);
        counts(x, 3, 5, 4, 0, 1, 1, 1, 0, 1, 0);
        c.same("nobody leads", x.leader(), -1);
        x.setPatience(0, 6);
        c.same("raises", x.sink(0), true);
        told(x, 0, 1, 0, 0, 0, 1, 6, 6, 1, 0, 1);

        FleetTerms y = new FleetTerms();
        y.sink(1);
        y.pass(2);
        told(y, 1, 0, -1, 0, 0, 0, 3, 3, 0, 0, -1);
        told(y, 2, 1, 0, 0, 0, 1, 4, 4, 0, 0, -1);
        for (int wrong : new int[] {5, -1, MIN, MAX}) {
            c.fails("sink(" + wrong + ")", y, INDEX, () -> y.sink(wrong));
        }
    }

    private void promise6Write() {
        FleetTerms x = Scenes.led(5);
        c.same("write(0, 0)", x.write(0, 0), 0);
        c.same("write(0, 99)", x.write(0, 99), 1);
        c.same("its term", x.entry(0, 1, 0), 1);
        c.same("its catch", x.entry(0, 1, 1), 99);
        for (int boat : new int[] {5, -1, MIN, MAX}) {
            c.fails("no boat " + boat, x, INDEX, () -> x.write(boat, 1));
            c.fails("no boat " + boat + ", nor catch", x, INDEX, () -> x.write(boat, 100));
        }
        for (int fish : new int[] {100, -1, MIN, MAX}) {
            c.fails("catch " + fish, x, ARGUMENT, () -> x.write(0, fish));
            c.fails("catch " + fish + " of who follows", x, ARGUMENT, () -> x.write(1, fish));
        }
        c.fails("it follows", x, STATE, () -> x.write(1, 5));
        for (int place = 2; place < 10; place++) {
            c.same("place", x.write(0, place), place);
        }
        c.fails("10 entries", x, STATE, () -> x.write(0, 5));
        c.fails("10 entries and a wrong catch", x, ARGUMENT, () -> x.write(0, 100));

        FleetTerms y = Scenes.led(3);
        y.sink(0);
        c.fails("it is sunk", y, STATE, () -> y.write(0, 5));
        FleetTerms z = Scenes.fleetOf(3);
        z.go(0, 1);
        z.pass(2);
        c.same("it stands", z.told(0, 2), 1);
        c.fails("one that stands", z, STATE, () -> z.write(0, 5));
    }

    private void promise7Pass() {
        FleetTerms x = new FleetTerms();
        c.same("the first hour", x.pass(1), 0);
        c.same("clock of 0", x.told(0, 6), 1);
        c.same("clock of 4", x.told(4, 6), 5);
        c.same("the second hour", x.pass(1), 1);
        told(x, 0, 1, 0, 2, 0, 1, 2, 2, 0, 0, -1);
        told(x, 1, 1, 0, 0, 0, 1, 3, 3, 0, 0, -1);
        told(x, 4, 1, 0, 0, 0, 1, 6, 6, 0, 0, -1);
        counts(x, 2, 5, 5, 1, 1, 1, 1, 0, 0, 0);
        c.same("50 hours", x.pass(50), 0);
        counts(x, 52, 5, 5, 1, 1, 1, 1, 0, 0, 0);
        for (int hours : new int[] {0, 51, -1, MIN, MAX}) {
            c.fails("pass(" + hours + ")", x, ARGUMENT, () -> x.pass(hours));
        }
        FleetTerms y = Scenes.split();
        FleetTerms z = Scenes.split();
        y.go(0, 0);
        z.go(0, 0);
        y.pass(50);
        for (int hour = 0; hour < 50; hour++) {
            z.pass(1);
        }
        c.same("hours at once, or one by one", y.digest(), z.digest());
    }

    private void promise7AVoteRestartsTheClock() {
        FleetTerms x = new FleetTerms();
        x.sink(1);
        x.sink(2);
        x.sink(4);
        c.same("2 of 5 are not enough", x.pass(2), 0);
        told(x, 0, 1, 0, 1, 0, 1, 2, 2);
        // Its clock was 5 again by its vote, and then its own turn came.
        told(x, 3, 1, 0, 0, 0, 1, 5, 4);
        counts(x, 2, 5, 2, 0, 1, 1, 0);
    }

    private void promise7VotesByNumbers() {
        FleetTerms x = Scenes.fleetOf(3);
        x.setPatience(0, 9);
        x.sink(0);
        x.sink(0);
        x.sink(2);
        c.same("boat 1 has the vote of boat 0", x.pass(3), 1);
        told(x, 0, 1, 1, 0, 0, 1, 9, 9);
        told(x, 1, 1, 1, 2, 0, 1, 3, 3);
    }

    private void promise7WhoStoodFollows() {
        FleetTerms x = Scenes.fleetOf(3);
        x.go(0, 1);
        x.pass(2);
        c.same("it stands", x.told(0, 2), 1);
        x.go(0, 0);
        c.same("boat 1 has the vote of boat 2", x.pass(1), 1);
        told(x, 0, 1, 0, 0, 0, 1, 2, 2);
        told(x, 1, 1, 1, 2, 0, 1, 3, 3);
        told(x, 2, 1, 1, 0, 0, 1, 4, 4);
    }

    private void promise7OneVoteATerm() {
        FleetTerms x = Scenes.fleetOf(3);
        x.go(0, 1);
        x.pass(2);
        x.go(0, 0);
        x.sink(2);
        c.same("a vote that is given stays", x.pass(1), 0);
        told(x, 0, 1, 0, 1, 0, 1, 2, 1);
        told(x, 1, 1, 1, 1, 0, 1, 3, 3);
        counts(x, 3, 3, 2, 0, 1, 2, 0);
    }

    private void promise7NoVoteForAnOlderLog() {
        FleetTerms x = Scenes.fleetOf(3);
        x.setPatience(2, 2);
        x.pass(2);
        x.go(2, 1);
        x.write(0, 5);
        x.pass(1);
        x.sink(0);
        x.go(2, 0);
        c.same("boat 2 stands", x.pass(1), 0);
        told(x, 2, 2, 2, 1, 0, 1, 2, 2, 0, 0, -1);
        told(x, 1, 2, -1, 0, 0, 1, 3, 2, 1, 0, 1);
        c.same("boat 1 stands", x.pass(2), 1);
        told(x, 1, 3, 1, 2, 0, 1, 3, 3, 1, 0, 1);
        told(x, 2, 3, 1, 0, 0, 1, 2, 2, 1, 0, 1);
    }

    private void promise7AskerMeetsAGreaterTerm() {
        FleetTerms x = Scenes.fleetOf(4);
        x.sink(0);
        x.sink(2);
        x.sink(3);
        x.pass(6);
        x.sink(0);
        x.sink(2);
        x.sink(3);
        c.same("boat 0 stands", x.pass(2), 0);
        told(x, 0, 2, -1, 0, 0, 1, 2, 2);
        told(x, 1, 2, 1, 1, 0, 1, 3, 1);
        // It asked no more.
        told(x, 2, 0, -1, 0, 0, 1, 4, 2);
        told(x, 3, 0, -1, 0, 0, 1, 5, 3);
        counts(x, 8, 4, 4, 0, 2, 3, 0);
    }

    private void promise7TellerMeetsAGreaterTerm() {
        FleetTerms x = Scenes.led(5);
        x.go(1, 1);
        x.setPatience(1, 9);
        x.pass(3);
        told(x, 1, 2, 1, 1, 1, 1, 9, 9);
        x.go(1, 0);
        x.write(0, 50);
        c.same("nobody begins to lead", x.pass(1), 0);
        told(x, 0, 2, -1, 0, 0, 1, 2, 2, 1, 0, 1);
        told(x, 1, 2, 1, 1, 0, 1, 9, 8, 0, 0, -1);
        // It told no more.
        told(x, 2, 1, 0, 0, 0, 1, 4, 3, 0, 0, -1);
        told(x, 4, 1, 0, 0, 0, 1, 6, 5, 0, 0, -1);
        counts(x, 6, 5, 5, 0, 2, 2, 1, 0, 0, 0);
    }

    private void promise7LogsAreCutAndFilled() {
        FleetTerms x = Scenes.split();
        told(x, 0, 1, 0, 2, 1, 1, 2, 2, 3, 0, 1);
        told(x, 1, 2, 1, 2, 0, 1, 3, 3, 1, 1, 2);
        told(x, 2, 2, 1, 0, 0, 1, 4, 4, 1, 0, 2);
        x.go(0, 0);
        x.pass(1);
        told(x, 0, 2, -1, 0, 0, 1, 2, 2, 2, 0, 1);
        told(x, 2, 2, 1, 0, 0, 1, 4, 4, 1, 1, 2);
        c.same("one is lost", x.count(7), 1);
        x.pass(2);
        told(x, 0, 2, -1, 0, 0, 1, 2, 2, 0, 0, -1);
        c.same("three are lost", x.count(7), 3);
        x.pass(1);
        told(x, 0, 2, -1, 0, 0, 1, 2, 2, 1, 1, 2);
        c.same("it has the catch", x.entry(0, 0, 1), 20);
        x.write(1, 21);
        x.write(1, 22);
        x.pass(1);
        c.same("one entry an hour", x.told(0, 7), 2);
        x.pass(1);
        c.same("and the next one", x.told(0, 7), 3);
        c.same("no more is lost", x.count(7), 3);
    }

    private void promise7OnlyEntriesOfTheOwnTermAreCommitted() {
        FleetTerms x = Scenes.led(5);
        x.go(2, 1);
        x.go(3, 1);
        x.go(4, 1);
        x.write(0, 1);
        x.pass(1);
        c.same("2 of 5 have it", x.told(0, 8), 0);
        x.go(2, 0);
        x.go(3, 0);
        x.go(4, 0);
        x.sink(0);
        c.same("boat 1 begins to lead", x.pass(3), 1);
        told(x, 1, 2, 1, 2, 0, 1, 3, 3, 1, 0, 1);
        c.same("all of them have it", x.entry(1, 0, 2), 5);
        x.pass(1);
        c.same("but it is of an earlier term", x.told(1, 8), 0);
        x.write(1, 2);
        x.pass(1);
        c.same("with one of its own term both are", x.told(1, 8), 2);
        c.same("who was told before does not know", x.told(2, 8), 0);
        x.pass(1);
        c.same("an hour later it does", x.told(2, 8), 2);
        c.same("who is sunk does not", x.told(0, 8), 0);
    }

    private void promise7MoreThanHalfOfAllBoats() {
        FleetTerms x = Scenes.led(4);
        x.sink(2);
        x.sink(3);
        x.write(0, 1);
        x.pass(1);
        c.same("2 of 4 are not more than half", x.told(0, 8), 0);
        x.sink(2);
        x.pass(1);
        c.same("3 of 4 are", x.told(0, 8), 1);

        FleetTerms y = Scenes.fleetOf(4);
        y.sink(2);
        y.sink(3);
        c.same("2 votes of 4", y.pass(2), 0);
        FleetTerms z = Scenes.fleetOf(4);
        z.sink(3);
        c.same("3 votes of 4", z.pass(2), 1);
    }

    private void promise7OnlyThoseThatHearCount() {
        FleetTerms x = Scenes.led(5);
        x.sink(3);
        x.sink(4);
        x.go(2, 1);
        x.write(0, 1);
        x.pass(1);
        x.go(1, 1);
        x.go(2, 0);
        x.pass(1);
        c.same("3 of 5 have it", x.entry(0, 0, 2), 3);
        c.same("but one does not hear", x.told(0, 8), 0);
        x.go(1, 0);
        x.pass(1);
        c.same("now it does", x.told(0, 8), 1);
    }

    private void promise8Told() {
        FleetTerms x = Scenes.split();
        x.sink(2);
        x.setPatience(2, 8);
        told(x, 0, 1, 0, 2, 1, 1, 2, 2, 3, 0, 1);
        told(x, 1, 2, 1, 2, 0, 1, 3, 3, 1, 1, 2);
        told(x, 2, 2, 1, 0, 0, 0, 8, 4, 1, 0, 2);
        for (int boat : new int[] {3, -1, MIN, MAX}) {
            c.fails("told(" + boat + ", 0)", x, INDEX, () -> x.told(boat, 0));
        }
        for (int what : new int[] {10, -1, MIN, MAX}) {
            c.fails("told(0, " + what + ")", x, INDEX, () -> x.told(0, what));
        }
        for (int what = 0; what < 10; what++) {
            int w = what;
            c.keeps("told", x, () -> x.told(1, w));
        }
    }

    private void promise9Entry() {
        FleetTerms x = Scenes.split();
        c.same("its term", x.entry(0, 2, 0), 1);
        c.same("its catch", x.entry(0, 2, 1), 12);
        c.same("only this boat has it", x.entry(0, 2, 2), 1);
        c.same("the other log's term", x.entry(2, 0, 0), 2);
        c.same("the other log's catch", x.entry(2, 0, 1), 20);
        c.same("two have it", x.entry(2, 0, 2), 2);
        x.sink(1);
        x.go(1, 2);
        c.same("a sunk one far away has it too", x.entry(2, 0, 2), 2);
        for (int place : new int[] {3, 10, -1, MIN, MAX}) {
            c.fails("entry(0, " + place + ", 0)", x, INDEX, () -> x.entry(0, place, 0));
        }
        c.fails("entry(1, 1, 0)", x, INDEX, () -> x.entry(1, 1, 0));
        for (int wrong : new int[] {3, -1, MIN, MAX}) {
            c.fails("entry(" + wrong + ", 0, 0)", x, INDEX, () -> x.entry(wrong, 0, 0));
            c.fails("entry(0, 0, " + wrong + ")", x, INDEX, () -> x.entry(0, 0, wrong));
        }
        FleetTerms y = Scenes.split();
        y.go(0, 0);
        y.pass(1);
        c.same("a place that is left", y.entry(0, 1, 1), 11);
        c.fails("a place that was lost", y, INDEX, () -> y.entry(0, 2, 0));
        FleetTerms z = new FleetTerms();
        c.fails("no entries", z, INDEX, () -> z.entry(0, 0, 0));
    }

    private void promise10Agree() {
        FleetTerms x = Scenes.split();
        c.same("other entries", x.agree(0, 1), 0);
        c.same("the same ones", x.agree(1, 2), 1);
        c.same("with itself", x.agree(0, 0), 3);
        x.write(1, 21);
        c.same("one is longer", x.agree(1, 2), 1);
        c.same("the other way round", x.agree(2, 1), 1);
        FleetTerms y = Scenes.led(3);
        y.write(0, 33);
        y.go(0, 1);
        y.pass(3);
        y.write(1, 33);
        c.same("the same catch of another term", y.agree(0, 1), 0);
        c.same("no entries", new FleetTerms().agree(0, 4), 0);
        for (int wrong : new int[] {3, -1, MIN, MAX}) {
            c.fails("agree(" + wrong + ", 0)", x, INDEX, () -> x.agree(wrong, 0));
            c.fails("agree(0, " + wrong + ")", x, INDEX, () -> x.agree(0, wrong));
        }
    }

    private void promise11Newer() {
        FleetTerms x = Scenes.split();
        c.same("longer, but of a smaller term", x.newer(0, 1), false);
        c.same("shorter, but of a greater term", x.newer(1, 0), true);
        c.same("the same", x.newer(1, 2), true);
        c.same("the same, the other way round", x.newer(2, 1), true);
        c.same("itself", x.newer(0, 0), true);
        x.write(1, 21);
        c.same("longer", x.newer(1, 2), true);
        c.same("shorter", x.newer(2, 1), false);
        FleetTerms y = Scenes.led(3);
        c.same("both without entries", y.newer(1, 0), true);
        y.write(0, 1);
        c.same("without entries", y.newer(1, 0), false);
        c.same("than one without", y.newer(0, 1), true);
        for (int wrong : new int[] {3, -1, MIN, MAX}) {
            c.fails("newer(" + wrong + ", 0)", x, INDEX, () -> x.newer(wrong, 0));
            c.fails("newer(0, " + wrong + ")", x, INDEX, () -> x.newer(0, wrong));
        }
    }

    private void promise12Leader() {
        FleetTerms x = Scenes.split();
        c.same("the greater term", x.leader(), 1);
        c.same("two lead", x.count(3), 2);
        c.keeps("leader", x, x::leader);
        x.sink(1);
        c.same("the other one is sunk", x.leader(), 0);
        x.sink(0);
        c.same("both are sunk", x.leader(), -1);
        x.sink(1);
        c.same("who is raised follows", x.leader(), -1);
        c.same("a new fleet", new FleetTerms().leader(), -1);
    }

    private void promise13Count() {
        FleetTerms x = Scenes.split();
        counts(x, 6, 3, 3, 2, 2, 2, 2, 0, 1, 0);
        x.sink(0);
        counts(x, 6, 3, 2, 1, 2, 2, 2, 0, 1, 0);
        x.pass(1);
        counts(x, 7, 3, 2, 1, 2, 2, 2, 0, 1, 0);
        x.sink(0);
        x.go(0, 0);
        x.pass(4);
        counts(x, 11, 3, 3, 1, 2, 2, 2, 3, 1, 1);
        x.sink(1);
        x.sink(0);
        x.sink(2);
        counts(x, 11, 3, 0, 0, 2, 2, 2, 3, 1, 1);
        FleetTerms y = Scenes.led(7);
        y.write(0, 1);
        y.pass(1);
        counts(y, 3, 7, 7, 1, 1, 1, 1, 0, 1, 0);
        y.pass(1);
        counts(y, 4, 7, 7, 1, 1, 1, 1, 0, 1, 1);
        y.sink(0);
        y.sink(0);
        counts(y, 4, 7, 7, 0, 1, 1, 1, 0, 1, 0);
        y.fleet(3);
        counts(y, 0, 3, 3, 0, 0, 0, 0, 0, 0, 0);
        y.go(0, 1);
        y.pass(2);
        c.same("the greatest term is that of boat 0", y.count(4), 1);
        for (int what : new int[] {10, -1, MIN, MAX}) {
            c.fails("count(" + what + ")", x, INDEX, () -> x.count(what));
        }
    }

    private void promise14Harbour() {
        FleetTerms x = Scenes.split();
        c.same("up in 0", x.harbour(0, 0), 2);
        c.same("2 of 3", x.harbour(0, 1), 1);
        c.same("the smallest of two alike", x.harbour(0, 2), 1);
        c.same("up in 1", x.harbour(1, 0), 1);
        c.same("1 of 3", x.harbour(1, 1), 0);
        c.same("the only one", x.harbour(1, 2), 0);
        c.same("up in 2", x.harbour(2, 0), 0);
        c.same("0 of 3", x.harbour(2, 1), 0);
        c.same("none", x.harbour(2, 2), -1);
        x.go(0, 0);
        c.same("not the longest one, but the newest", x.harbour(0, 2), 1);
        x.sink(1);
        c.same("sunk ones do not count", x.harbour(0, 0), 2);
        c.same("the newest that is up", x.harbour(0, 2), 2);
        x.sink(2);
        c.same("the last one", x.harbour(0, 2), 0);
        FleetTerms y = Scenes.fleetOf(4);
        y.sink(0);
        y.sink(1);
        c.same("2 of 4 are not more than half", y.harbour(0, 1), 0);
        for (int wrong : new int[] {3, -1, MIN, MAX}) {
            c.fails("harbour(" + wrong + ", 0)", x, INDEX, () -> x.harbour(wrong, 0));
            c.fails("harbour(0, " + wrong + ")", x, INDEX, () -> x.harbour(0, wrong));
        }
    }

    private void promise15Until() {
        FleetTerms x = new FleetTerms();
        c.same("a new fleet", x.until(), 2);
        c.keeps("until", x, x::until);
        x.pass(1);
        c.same("an hour later", x.until(), 1);
        x.pass(1);
        c.same("it is led", x.until(), 0);
        x.sink(3);
        x.sink(4);
        c.same("3 of 5 hear", x.until(), 0);
        x.sink(2);
        c.same("2 of 5 hear, for ever", x.until(), -1);
        FleetTerms y = Scenes.led(3);
        y.go(0, 1);
        c.same("who leads hears too few", y.until(), 3);
        FleetTerms z = Scenes.led(3);
        z.sink(0);
        c.same("who led is sunk", z.until(), 3);
    }

    private void promise16Foresee() {
        FleetTerms x = new FleetTerms();
        c.same("leads in an hour", x.foresee(1, 3), 0);
        c.same("leads in two", x.foresee(2, 3), 1);
        c.same("the term then", x.foresee(2, 4), 1);
        c.same("how often one stood", x.foresee(50, 5), 1);
        c.same("how often one began to lead", x.foresee(50, 6), 1);
        FleetTerms y = Scenes.split();
        y.go(0, 0);
        c.same("lost then", y.foresee(2, 7), 2);
        c.same("the most committed then", y.foresee(2, 8), 1);
        c.same("the fewest committed in 3 hours", y.foresee(3, 9), 0);
        c.same("the fewest committed in 4 hours", y.foresee(4, 9), 1);
        c.same("what was counted before is in it", y.foresee(1, 5), 2);
        for (int what = 3; what <= 9; what++) {
            int w = what;
            c.keeps("foresee", y, () -> y.foresee(50, w));
            FleetTerms z = Scenes.split();
            z.go(0, 0);
            z.pass(3);
            c.same("foresee(3, " + w + ")", y.foresee(3, w), z.count(w));
        }
        FleetTerms u = Scenes.fleetOf(3);
        u.setPatience(0, 9);
        u.go(0, 1);
        u.sink(1);
        u.sink(2);
        c.same("it stands at the hours 2, 11, 20, 29, 38, 47", u.foresee(50, 5), 6);
        FleetTerms v = Scenes.fleetOf(3);
        v.sink(0);
        v.sink(2);
        v.pass(3);
        v.sink(0);
        c.same("boat 1 has given its vote to itself", v.foresee(2, 6), 0);
        for (int hours : new int[] {0, 51, -1, MIN, MAX}) {
            c.fails("foresee(" + hours + ", 3)", y, ARGUMENT, () -> y.foresee(hours, 3));
            c.fails("foresee(" + hours + ", 2)", y, ARGUMENT, () -> y.foresee(hours, 2));
        }
        for (int what : new int[] {2, 10, 0, -1, MIN, MAX}) {
            c.fails("foresee(1, " + what + ")", y, INDEX, () -> y.foresee(1, what));
        }
    }

    private void promise17Advise() {
        FleetTerms x = new FleetTerms();
        x.go(3, 2);
        c.same("all are the same: the smallest", x.advise(3, 20), 0);
        for (int harbour = 1; harbour <= 2; harbour++) {
            FleetTerms y = Scenes.led(3);
            y.write(0, 1);
            y.go(0, harbour);
            c.same("to who leads, in an hour", y.advise(1, 1), harbour);
            c.same("to who leads, in 20", y.advise(1, 20), harbour);
            c.keeps("advise", y, () -> y.advise(1, 20));
        }
        FleetTerms z = Scenes.led(3);
        z.write(0, 1);
        z.write(0, 2);
        z.go(0, 1);
        z.go(1, 1);
        c.same("to stay", z.advise(1, 1), 1);
        c.same("of who leads: to follow the other one", z.advise(0, 1), 0);
        for (int boat : new int[] {3, -1, MIN, MAX}) {
            c.fails("advise(" + boat + ", 1)", z, INDEX, () -> z.advise(boat, 1));
            c.fails("advise(" + boat + ", 0)", z, INDEX, () -> z.advise(boat, 0));
        }
        z.sink(2);
        for (int hours : new int[] {0, 21, -1, MIN, MAX}) {
            c.fails("advise(0, " + hours + ")", z, ARGUMENT, () -> z.advise(0, hours));
            c.fails("advise(2, " + hours + ")", z, ARGUMENT, () -> z.advise(2, hours));
        }
        c.fails("advise(2, 1)", z, STATE, () -> z.advise(2, 1));
    }

    private void promise18Mean() {
        c.same("none", new FleetTerms().mean(), 0.0);
        FleetTerms x = Scenes.split();
        c.same("1 of 3", x.mean(), 1.0 / 3.0);
        x.go(0, 0);
        x.pass(1);
        c.same("2 of 3", x.mean(), 2.0 / 3.0);
        x.sink(1);
        c.same("sunk ones count too", x.mean(), 2.0 / 3.0);
        x.sink(1);
        c.same("who is raised knows none", x.mean(), 1.0 / 3.0);
        FleetTerms y = Scenes.led(4);
        y.write(0, 1);
        y.write(0, 2);
        y.pass(2);
        c.same("2 + 1 + 1 + 1 of 4", y.mean(), 1.25);
        c.keeps("mean", y, y::mean);
    }

    private void promise19Digest() {
        long[] first = {
            0, 3, 3, 0, 0, 0, 0, 0, 0, 0,
            0, -1, 0, 0, 1, 2, 2, 0, 0, -1,
            0, -1, 0, 0, 1, 3, 3, 0, 0, -1,
            0, -1, 0, 0, 1, 4, 4, 0, 0, -1,
        };
        c.same("three boats at first", Scenes.fleetOf(3).digest(), digestOf(first));
        long[] then = {
            6, 3, 3, 2, 2, 2, 2, 0, 1, 0,
            1, 0, 2, 1, 1, 2, 2, 3, 0, 1, 1, 10, 1, 1, 11, 1, 1, 12, 1,
            2, 1, 2, 0, 1, 3, 3, 1, 1, 2, 2, 20, 2,
            2, 1, 0, 0, 1, 4, 4, 1, 0, 2, 2, 20, 2,
        };
        FleetTerms x = Scenes.split();
        c.same("split boats with logs", x.digest(), digestOf(then));
        c.same("once more", x.digest(), digestOf(then));
    }

    private void theGreatestFleet() {
        FleetTerms x = Scenes.led(7);
        for (int fish = 0; fish < 10; fish++) {
            x.write(0, fish);
        }
        x.pass(11);
        told(x, 6, 1, 0, 0, 0, 1, 8, 8, 10, 10, 1);
        counts(x, 13, 7, 7, 1, 1, 1, 1, 0, 10, 10);
        c.same("mean", x.mean(), 10.0);
        c.same("leader", x.leader(), 0);
        c.same("until", x.until(), 0);
        c.same("newest", x.harbour(0, 2), 0);
        c.same("up", x.harbour(0, 0), 7);
        c.same("have the last entry", x.entry(6, 9, 2), 7);
        c.same("advise", x.advise(6, 20), 0);
        x.sink(0);
        c.same("until another one leads", x.until(), 3);
    }

    private void afterTheGreatestFleet() {
        FleetTerms x = Scenes.led(7);
        for (int boat = 3; boat < 7; boat++) {
            x.setPatience(boat, 2);
        }
        x.write(0, 7);
        x.pass(2);
        x.sink(0);
        x.pass(9);
        x.fleet(3);
        c.same("boats that are no more are not counted", x.digest(), Scenes.fleetOf(3).digest());
        c.same("nor lead", x.leader(), -1);
        c.same("nor are heard", x.harbour(0, 0), 3);
        c.same("nor stand", x.foresee(2, 5), 1);
        c.same("nor know entries", x.mean(), 0.0);
        x.pass(2);
        x.write(0, 7);
        c.same("nor have entries", x.entry(0, 0, 2), 1);
        x.sink(1);
        x.sink(2);
        c.same("nor give votes", x.until(), -1);
        c.fails("nor are told of", x, INDEX, () -> x.told(3, 0));
    }

    private void theExampleOfTheReadme() {
        FleetTerms fleet = new FleetTerms();
        fleet.pass(2);
        fleet.write(fleet.leader(), 42);
        fleet.pass(2);
        c.same("what README.md says of its example", fleet.count(9), 1);
    }

    private static long digestOf(long[] numbers) {
        long d = 1759;
        for (long x : numbers) {
            d = d * 31 + x;
        }
        return d;
    }
}
