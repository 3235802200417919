/**
 * Each argument that the document bounds, promise by promise: at the bound, on this side of it and beyond
 * it, together with each other one, so that the exception that is named first is told from the others; and
 * that a refused call changes nothing.
 */
final class EdgesTest {
    private static final Class<?> INDEX = IndexOutOfBoundsException.class;
    private static final Class<?> ARGUMENT = IllegalArgumentException.class;
    private static final Class<?> STATE = IllegalStateException.class;
    private static final int MIN = Integer.MIN_VALUE;
    private static final int MAX = Integer.MAX_VALUE;
    private static final int LEAST = 3;
    private static final int MOST = 7;

    private final Checks c;

    private EdgesTest(Checks c) {
        this.c = c;
    }

    static void run(Checks c) {
        EdgesTest t = new EdgesTest(c);
        t.promise2BoatsAre3To7();
        t.promise3BoatsAndPatience2To9();
        t.promise4BoatsAndHarbours0To2();
        t.promise5Boats();
        t.promise6BoatsAndFish0To99();
        t.promise6OfAFullLogASunkOneAndOneThatDoesNotLead();
        t.promise6TheTenthEntryIsTheLast();
        t.promise7Hours1To50();
        t.promise8BoatsAndWhat0To9();
        t.promise9BoatsPlacesAndWhat0To2();
        t.promise9TheLogHasSoManyPlaces();
        t.promise10Boats();
        t.promise11Boats();
        t.promise13What0To9();
        t.promise14Harbours0To2AndWhat0To2();
        t.promise16Hours1To50AndWhat3To9();
        t.promise17BoatsAndHours1To20();
        t.promise17OfASunkOne();
        t.promises12And15And18And19ChangeNothing();
        t.boatsOfAnEarlierFleetAreNoMore();
    }

    // ---- helpers

    private static int[] around(int least, int most) {
        return new int[] {MIN, least - 1, least, least + 1, most - 1, most, most + 1, MAX};
    }

    private static boolean isOutside(int number, int least, int most) {
        return number < least || number > most;
    }

    private static Class<?> indexUnless(boolean good) {
        return good ? null : INDEX;
    }

    private void changing(String what, Scenes.Scene scene, Class<?> due, Checks.OnFleet call) {
        c.calls(what, scene, due, true, call);
    }

    private void asking(String what, Scenes.Scene scene, Class<?> due, Checks.OnFleet call) {
        c.calls(what, scene, due, false, call);
    }

    // ---- the fleet

    private void promise2BoatsAre3To7() {
        for (int boats : around(LEAST, MOST)) {
            Class<?> due = isOutside(boats, LEAST, MOST) ? ARGUMENT : null;
            changing("fleet(" + boats + ")", () -> new FleetTerms(), due, x -> x.fleet(boats));
            changing("fleet(" + boats + ") of a split one", Scenes::split, due, x -> x.fleet(boats));
            changing("fleet(" + boats + ") of a worn one", Scenes::worn, due, x -> x.fleet(boats));
            changing("fleet(" + boats + ") of 7", () -> Scenes.allFull(7), due, x -> x.fleet(boats));
        }
    }

    private void promise3BoatsAndPatience2To9() {
        for (int n = LEAST; n <= MOST; n++) {
            int boats = n;
            for (int boat : around(0, boats - 1)) {
                for (int patience : around(2, 9)) {
                    Class<?> due = isOutside(boat, 0, boats - 1) ? INDEX : isOutside(patience, 2, 9) ? ARGUMENT : null;
                    Scenes.Scene scene = boats == LEAST ? Scenes::worn : () -> Scenes.fleetOf(boats);
                    changing("setPatience(" + boat + ", " + patience + ") of " + boats, scene, due,
                            x -> x.setPatience(boat, patience));
                }
            }
        }
    }

    private void promise4BoatsAndHarbours0To2() {
        for (int n = LEAST; n <= MOST; n++) {
            int boats = n;
            for (int boat : around(0, boats - 1)) {
                for (int harbour : around(0, 2)) {
                    boolean good = !isOutside(boat, 0, boats - 1) && !isOutside(harbour, 0, 2);
                    changing("go(" + boat + ", " + harbour + ") of " + boats, () -> Scenes.led(boats),
                            indexUnless(good), x -> x.go(boat, harbour));
                }
            }
        }
    }

    private void promise5Boats() {
        for (int n = LEAST; n <= MOST; n++) {
            int boats = n;
            for (int boat : around(0, boats - 1)) {
                Class<?> due = indexUnless(!isOutside(boat, 0, boats - 1));
                changing("sink(" + boat + ") of " + boats, () -> Scenes.led(boats), due, x -> x.sink(boat));
                changing("sink(" + boat + ") of " + boats + " that are sunk",
                        () -> Scenes.upOf(Scenes.led(boats), 0), due, x -> x.sink(boat));
            }
        }
    }

    private void promise6BoatsAndFish0To99() {
        for (int n = LEAST; n <= MOST; n++) {
            int boats = n;
            writes("of who leads", () -> Scenes.led(boats), boats, 0);
        }
    }

    private void promise6OfAFullLogASunkOneAndOneThatDoesNotLead() {
        writes("of a full log", () -> Scenes.full(5), 5, -1);
        writes("of full logs", () -> Scenes.allFull(5), 5, -1);
        writes("of a sunk one that leads", () -> Scenes.sunkLeader(5), 5, -1);
        writes("of one that stands", () -> Scenes.standing(5), 5, -1);
        writes("of those that follow", () -> Scenes.fleetOf(5), 5, -1);
        writes("of a raised one that led", () -> raisedLeader(), 5, -1);
        writes("of a sunk one with a full log", () -> Scenes.upOf(Scenes.full(5), 0), 5, -1);
        writes("of one of a worn fleet", Scenes::worn, 3, 1);
        writes("of a full log in a worn fleet", () -> wornAndFull(), 3, -1);
    }

    private static FleetTerms raisedLeader() {
        FleetTerms x = Scenes.sunkLeader(5);
        x.sink(0);
        return x;
    }

    private static FleetTerms wornAndFull() {
        FleetTerms x = Scenes.worn();
        while (x.told(1, 7) < 10) {
            x.write(1, 50);
        }
        return x;
    }

    private void writes(String of, Scenes.Scene scene, int boats, int leads) {
        for (int boat : around(0, boats - 1)) {
            for (int fish : around(0, 99)) {
                Class<?> due = isOutside(boat, 0, boats - 1) ? INDEX : isOutside(fish, 0, 99) ? ARGUMENT
                        : boat != leads ? STATE : null;
                changing("write(" + boat + ", " + fish + ") " + of, scene, due, x -> x.write(boat, fish));
            }
        }
    }

    private void promise6TheTenthEntryIsTheLast() {
        FleetTerms x = Scenes.led(3);
        for (int place = 0; place < 9; place++) {
            c.same("the place of the entry", x.write(0, 99 - place), place);
        }
        c.same("9 entries", x.told(0, 7), 9);
        c.same("the tenth", x.write(0, 0), 9);
        c.same("10 entries", x.told(0, 7), 10);
        c.same("the first one's catch", x.entry(0, 0, 1), 99);
        c.same("the last one's catch", x.entry(0, 9, 1), 0);
        c.same("the next boat has none", x.told(1, 7), 0);
        c.fails("the eleventh", x, STATE, () -> x.write(0, 0));
        c.same("10 entries still", x.told(0, 7), 10);
    }

    // ---- hours

    private void promise7Hours1To50() {
        for (int hours : around(1, 50)) {
            Class<?> due = isOutside(hours, 1, 50) ? ARGUMENT : null;
            changing("pass(" + hours + ")", () -> new FleetTerms(), due, x -> x.pass(hours));
            changing("pass(" + hours + ") of a split one", Scenes::split, due, x -> x.pass(hours));
            changing("pass(" + hours + ") of a worn one", Scenes::worn, due, x -> x.pass(hours));
        }
        c.same("an hour", hourAfter(1), 1);
        c.same("two", hourAfter(2), 2);
        c.same("49", hourAfter(49), 49);
        c.same("50", hourAfter(50), 50);
    }

    private static int hourAfter(int hours) {
        FleetTerms x = new FleetTerms();
        x.pass(hours);
        return x.count(0);
    }

    // ---- what there is

    private void promise8BoatsAndWhat0To9() {
        for (int n = LEAST; n <= MOST; n++) {
            int boats = n;
            for (int boat : around(0, boats - 1)) {
                for (int what : around(0, 9)) {
                    boolean good = !isOutside(boat, 0, boats - 1) && !isOutside(what, 0, 9);
                    asking("told(" + boat + ", " + what + ") of " + boats, () -> Scenes.sunkLeader(boats),
                            indexUnless(good), x -> x.told(boat, what));
                }
            }
        }
    }

    private void promise9BoatsPlacesAndWhat0To2() {
        for (int n = LEAST; n <= MOST; n++) {
            int boats = n;
            // Boat 0 has 2 entries, all others 1.
            for (int boat : around(0, boats - 1)) {
                for (int place : new int[] {MIN, -1, 0, 1, 2, 9, 10, MAX}) {
                    entries(() -> Scenes.sunkLeader(boats), boats, boat, place, boat == 0 ? 2 : 1);
                }
            }
        }
    }

    private void promise9TheLogHasSoManyPlaces() {
        int[] places = {MIN, -1, 0, 1, 8, 9, 10, 11, 20, MAX};
        int[] ofSplit = {3, 1, 1};
        for (int place : places) {
            for (int boat = 0; boat < 3; boat++) {
                entries(() -> Scenes.fleetOf(3), 3, boat, place, 0);
                entries(() -> Scenes.split(), 3, boat, place, ofSplit[boat]);
                entries(() -> Scenes.full(3), 3, boat, place, boat == 0 ? 10 : 0);
                entries(() -> Scenes.allFull(3), 3, boat, place, 10);
            }
        }
    }

    private void entries(Scenes.Scene scene, int boats, int boat, int place, int length) {
        for (int what : around(0, 2)) {
            boolean good = !isOutside(boat, 0, boats - 1) && !isOutside(place, 0, length - 1) && !isOutside(what, 0, 2);
            asking("entry(" + boat + ", " + place + ", " + what + ") of " + length, scene, indexUnless(good),
                    x -> x.entry(boat, place, what));
        }
    }

    private void promise10Boats() {
        for (int n = LEAST; n <= MOST; n++) {
            int boats = n;
            for (int a : around(0, boats - 1)) {
                for (int b : around(0, boats - 1)) {
                    boolean good = !isOutside(a, 0, boats - 1) && !isOutside(b, 0, boats - 1);
                    asking("agree(" + a + ", " + b + ") of " + boats, () -> Scenes.sunkLeader(boats),
                            indexUnless(good), x -> x.agree(a, b));
                }
            }
        }
    }

    private void promise11Boats() {
        for (int n = LEAST; n <= MOST; n++) {
            int boats = n;
            for (int a : around(0, boats - 1)) {
                for (int b : around(0, boats - 1)) {
                    boolean good = !isOutside(a, 0, boats - 1) && !isOutside(b, 0, boats - 1);
                    asking("newer(" + a + ", " + b + ") of " + boats, () -> Scenes.sunkLeader(boats),
                            indexUnless(good), x -> x.newer(a, b));
                }
            }
        }
    }

    private void promise13What0To9() {
        for (int what : around(0, 9)) {
            Class<?> due = indexUnless(!isOutside(what, 0, 9));
            asking("count(" + what + ")", () -> new FleetTerms(), due, x -> x.count(what));
            asking("count(" + what + ") of a split one", Scenes::split, due, x -> x.count(what));
            asking("count(" + what + ") of a worn one", Scenes::worn, due, x -> x.count(what));
        }
    }

    private void promise14Harbours0To2AndWhat0To2() {
        for (int harbour : around(0, 2)) {
            for (int what : around(0, 2)) {
                boolean good = !isOutside(harbour, 0, 2) && !isOutside(what, 0, 2);
                asking("harbour(" + harbour + ", " + what + ")", () -> new FleetTerms(), indexUnless(good),
                        x -> x.harbour(harbour, what));
                asking("harbour(" + harbour + ", " + what + ") of a split one", Scenes::split, indexUnless(good),
                        x -> x.harbour(harbour, what));
                asking("harbour(" + harbour + ", " + what + ") of a worn one", Scenes::worn, indexUnless(good),
                        x -> x.harbour(harbour, what));
            }
        }
    }

    // ---- what would be

    private void promise16Hours1To50AndWhat3To9() {
        for (int hours : around(1, 50)) {
            for (int what : around(3, 9)) {
                Class<?> due = isOutside(hours, 1, 50) ? ARGUMENT : indexUnless(!isOutside(what, 3, 9));
                asking("foresee(" + hours + ", " + what + ")", () -> new FleetTerms(), due,
                        x -> x.foresee(hours, what));
                asking("foresee(" + hours + ", " + what + ") of a split one", Scenes::split, due,
                        x -> x.foresee(hours, what));
                asking("foresee(" + hours + ", " + what + ") of a worn one", Scenes::worn, due,
                        x -> x.foresee(hours, what));
            }
        }
    }

    private void promise17BoatsAndHours1To20() {
        for (int n = LEAST; n <= MOST; n++) {
            int boats = n;
            advises("of who are up", () -> Scenes.led(boats), boats, -1);
        }
    }

    private void promise17OfASunkOne() {
        advises("of one of a worn fleet", Scenes::worn, 3, 2);
        for (int n = LEAST; n <= MOST; n++) {
            int boats = n;
            advises("of one that is sunk", () -> Scenes.sunkLeader(boats), boats, 0);
            advises("of the last one that is sunk", () -> Scenes.upOf(Scenes.led(boats), boats - 1), boats, boats - 1);
        }
    }

    private void advises(String of, Scenes.Scene scene, int boats, int sunk) {
        for (int boat : around(0, boats - 1)) {
            for (int hours : around(1, 20)) {
                Class<?> due = isOutside(boat, 0, boats - 1) ? INDEX : isOutside(hours, 1, 20) ? ARGUMENT
                        : boat == sunk ? STATE : null;
                asking("advise(" + boat + ", " + hours + ") " + of, scene, due, x -> x.advise(boat, hours));
            }
        }
    }

    private void promises12And15And18And19ChangeNothing() {
        Scenes.Scene[] scenes = {
            FleetTerms::new, Scenes::split, Scenes::worn, () -> Scenes.allFull(7), () -> Scenes.sunkLeader(4),
            () -> Scenes.standing(3), () -> Scenes.upOf(Scenes.led(6), 0),
        };
        for (Scenes.Scene scene : scenes) {
            asking("leader()", scene, null, x -> x.leader());
            asking("until()", scene, null, x -> x.until());
            asking("mean()", scene, null, x -> x.mean());
            asking("digest()", scene, null, x -> x.digest());
        }
    }

    private void boatsOfAnEarlierFleetAreNoMore() {
        for (int n = LEAST; n < MOST; n++) {
            int boats = n;
            Scenes.Scene scene = () -> Scenes.shrunk(boats);
            c.same("as at first", Answers.of(scene.make()), Answers.of(Scenes.fleetOf(boats)));
            changing("promise 3: no boat " + boats, scene, INDEX, x -> x.setPatience(boats, 4));
            changing("promise 4: no boat " + boats, scene, INDEX, x -> x.go(boats, 1));
            changing("promise 5: no boat " + boats, scene, INDEX, x -> x.sink(boats));
            changing("promise 6: no boat " + boats, scene, INDEX, x -> x.write(boats, 1));
            asking("promise 8: no boat " + boats, scene, INDEX, x -> x.told(boats, 0));
            asking("promise 9: no boat " + boats, scene, INDEX, x -> x.entry(boats, 0, 0));
            asking("promise 9: no entries", scene, INDEX, x -> x.entry(0, 0, 0));
            asking("promise 10: no boat " + boats, scene, INDEX, x -> x.agree(0, boats));
            asking("promise 11: no boat " + boats, scene, INDEX, x -> x.newer(0, boats));
            asking("promise 17: no boat " + boats, scene, INDEX, x -> x.advise(boats, 1));
        }
    }
}
