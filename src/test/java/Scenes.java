/** Fleets that tests begin with: each call makes a new one, by the same calls each time. */
final class Scenes {
    interface Scene {
        FleetTerms make();
    }

    private Scenes() {
    }

    static FleetTerms fleetOf(int boats) {
        FleetTerms x = new FleetTerms();
        x.fleet(boats);
        return x;
    }

    /** A fleet in which boat 0 leads with the term 1, at the hour 2. */
    static FleetTerms led(int boats) {
        FleetTerms x = fleetOf(boats);
        x.pass(2);
        return x;
    }

    /**
     * Three boats: boat 0 has led with the term 1, and its log is 10, 11, 12 of that term, alone in the
     * harbour 1; boat 1 leads with the term 2 in the harbour 0, its log is 20 of that term, boat 2 has it.
     */
    static FleetTerms split() {
        FleetTerms x = led(3);
        x.write(0, 10);
        x.write(0, 11);
        x.write(0, 12);
        x.go(0, 1);
        x.pass(3);
        x.write(1, 20);
        x.pass(1);
        return x;
    }

    /** The boats of split(), of which boat 0 has lost entries; all that counts has another number than at first. */
    static FleetTerms worn() {
        FleetTerms x = split();
        x.go(0, 0);
        x.pass(5);
        x.write(1, 21);
        x.setPatience(0, 9);
        x.go(2, 2);
        x.pass(1);
        x.sink(2);
        return x;
    }

    /** Boat 0 leads, and its log has 10 entries, the catches 90 to 99. */
    static FleetTerms full(int boats) {
        FleetTerms x = led(boats);
        for (int fish = 90; fish <= 99; fish++) {
            x.write(0, fish);
        }
        return x;
    }

    /** All of them have the 10 entries of full(), and know them to be committed. */
    static FleetTerms allFull(int boats) {
        FleetTerms x = full(boats);
        x.pass(11);
        return x;
    }

    /** Boat 0 leads with two entries in its log, but is sunk. */
    static FleetTerms sunkLeader(int boats) {
        FleetTerms x = led(boats);
        x.write(0, 1);
        x.write(0, 2);
        x.pass(1);
        x.sink(0);
        return x;
    }

    /** Boat 0 stands, alone in the harbour 1. */
    static FleetTerms standing(int boats) {
        FleetTerms x = fleetOf(boats);
        x.go(0, 1);
        x.pass(2);
        return x;
    }

    /** A fleet as at first, behind a greater one whose boats led, sank, and had entries. */
    static FleetTerms shrunk(int boats) {
        FleetTerms x = allFull(7);
        x.sink(6);
        x.go(5, 2);
        x.setPatience(4, 9);
        x.fleet(boats);
        return x;
    }

    /** Only so many boats are up, those with the smallest numbers; the others are sunk. */
    static FleetTerms upOf(FleetTerms x, int up) {
        for (int boat = up; boat < x.count(1); boat++) {
            x.sink(boat);
        }
        return x;
    }

    /** Only so many boats are in the harbour 0, those with the smallest numbers; the others are in 1. */
    static FleetTerms hereOf(FleetTerms x, int here) {
        for (int boat = here; boat < x.count(1); boat++) {
            x.go(boat, 1);
        }
        return x;
    }

    /** Sinks a boat and raises it, so that its clock is its patience. */
    static void restart(FleetTerms x, int boat) {
        x.sink(boat);
        x.sink(boat);
    }
}
