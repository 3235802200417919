import java.util.ArrayList;
import java.util.List;

/** The document read a second time, in another form, to be compared with FleetTerms. */
final class Model {
    record Entry(int term, int fish) {
    }

    static final class Boat {
        final int number;
        int patience;
        int clock;
        int term = 0;
        Boat vote = null;
        String role = "follows";
        int harbour = 0;
        boolean up = true;
        List<Entry> log = new ArrayList<>();
        int known = 0;

        Boat(int number) {
            this.number = number;
            patience = 2 + number;
            clock = patience;
        }

        boolean leads() {
            return up && role.equals("leads");
        }

        boolean hears(Boat b) {
            return up && b.up && harbour == b.harbour;
        }

        void newTerm(int greater) {
            term = greater;
            vote = null;
            role = "follows";
        }

        int lastTerm() {
            return log.isEmpty() ? -1 : log.get(log.size() - 1).term;
        }

        boolean newer(Boat b) {
            if (lastTerm() != b.lastTerm()) {
                return lastTerm() > b.lastTerm();
            }
            return log.size() >= b.log.size();
        }

        int agree(Boat b) {
            int k = 0;
            while (k < log.size() && k < b.log.size() && log.get(k).equals(b.log.get(k))) {
                k++;
            }
            return k;
        }
    }

    List<Boat> boats = new ArrayList<>();
    int hour;
    int stood;
    int begun;
    int lost;

    Model() {
        fleet(5);
    }

    private Model(Model m) {
        hour = m.hour;
        stood = m.stood;
        begun = m.begun;
        lost = m.lost;
        for (Boat b : m.boats) {
            boats.add(new Boat(b.number));
        }
        for (Boat b : m.boats) {
            Boat c = boats.get(b.number);
            c.patience = b.patience;
            c.clock = b.clock;
            c.term = b.term;
            c.vote = b.vote == null ? null : boats.get(b.vote.number);
            c.role = b.role;
            c.harbour = b.harbour;
            c.up = b.up;
            c.log = new ArrayList<>(b.log);
            c.known = b.known;
        }
    }

    private boolean most(long number) {
        return number > boats.size() / 2;
    }

    private Boat boat(int b) {
        if (b < 0 || b >= boats.size()) {
            throw new IndexOutOfBoundsException();
        }
        return boats.get(b);
    }

    private static void index(boolean good) {
        if (!good) {
            throw new IndexOutOfBoundsException();
        }
    }

    private static void argument(boolean good) {
        if (!good) {
            throw new IllegalArgumentException();
        }
    }

    private static void state(boolean good) {
        if (!good) {
            throw new IllegalStateException();
        }
    }

    int fleet(int n) {
        argument(n >= 3 && n <= 7);
        boats.clear();
        for (int i = 0; i < n; i++) {
            boats.add(new Boat(i));
        }
        hour = 0;
        stood = 0;
        begun = 0;
        lost = 0;
        int least = 0;
        while (!most(least)) {
            least++;
        }
        return least;
    }

    int setPatience(int b, int patience) {
        Boat boat = boat(b);
        argument(patience >= 2 && patience <= 9);
        int before = boat.patience;
        boat.patience = patience;
        return before;
    }

    int go(int b, int harbour) {
        Boat boat = boat(b);
        index(harbour >= 0 && harbour <= 2);
        int before = boat.harbour;
        boat.harbour = harbour;
        return before;
    }

    boolean sink(int b) {
        Boat boat = boat(b);
        boat.up = !boat.up;
        if (boat.up) {
            boat.role = "follows";
            boat.clock = boat.patience;
            boat.known = 0;
        }
        return boat.up;
    }

    int write(int b, int fish) {
        Boat boat = boat(b);
        argument(fish >= 0 && fish <= 99);
        state(boat.leads() && boat.log.size() < 10);
        boat.log.add(new Entry(boat.term, fish));
        return boat.log.size() - 1;
    }

    int pass(int hours) {
        argument(hours >= 1 && hours <= 50);
        int before = begun;
        for (int i = 0; i < hours; i++) {
            hourGoes();
        }
        return begun - before;
    }

    private void hourGoes() {
        for (Boat b : boats) {
            if (b.up && !b.role.equals("leads") && --b.clock == 0) {
                stands(b);
            }
        }
        for (Boat b : boats) {
            if (b.leads()) {
                tells(b);
            }
        }
        for (Boat b : boats) {
            if (b.leads()) {
                commits(b);
            }
        }
        hour++;
    }

    private void stands(Boat b) {
        stood++;
        b.term += 1;
        b.role = "stands";
        b.vote = b;
        b.clock = b.patience;
        int votes = 1;
        for (Boat o : boats) {
            if (o == b || !o.hears(b)) {
                continue;
            }
            if (o.term > b.term) {
                b.newTerm(o.term);
                return;
            }
            if (o.term < b.term) {
                o.newTerm(b.term);
            }
            if ((o.vote == null || o.vote == b) && b.newer(o)) {
                o.vote = b;
                o.clock = o.patience;
                votes++;
            }
        }
        if (most(votes)) {
            b.role = "leads";
            begun++;
        }
    }

    private void tells(Boat b) {
        for (Boat o : boats) {
            if (o == b || !o.hears(b)) {
                continue;
            }
            if (o.term > b.term) {
                b.newTerm(o.term);
                return;
            }
            if (o.term < b.term) {
                o.newTerm(b.term);
            }
            o.role = "follows";
            o.clock = o.patience;
            if (o.log.size() <= o.agree(b)) {
                if (o.log.size() < b.log.size()) {
                    o.log.add(b.log.get(o.log.size()));
                }
            } else {
                o.log.remove(o.log.size() - 1);
                lost++;
            }
            int k = b.known;
            if (k > o.agree(b)) {
                k = o.agree(b);
            }
            if (k > o.known) {
                o.known = k;
            }
        }
    }

    private void commits(Boat b) {
        int best = 0;
        for (int k = 1; k <= b.log.size(); k++) {
            int first = k;
            long agreeing = boats.stream().filter(o -> o.hears(b) && o.agree(b) >= first).count();
            if (most(agreeing) && b.log.get(k - 1).term == b.term) {
                best = k;
            }
        }
        if (best > b.known) {
            b.known = best;
        }
    }

    int told(int b, int what) {
        Boat boat = boat(b);
        index(what >= 0 && what <= 9);
        int[] all = {
            boat.term, boat.vote == null ? -1 : boat.vote.number,
            boat.role.equals("follows") ? 0 : boat.role.equals("stands") ? 1 : 2,
            boat.harbour, boat.up ? 1 : 0, boat.patience, boat.clock, boat.log.size(), boat.known,
            boat.lastTerm(),
        };
        return all[what];
    }

    int entry(int b, int place, int what) {
        Boat boat = boat(b);
        index(place >= 0 && place < boat.log.size() && what >= 0 && what <= 2);
        if (what == 2) {
            return (int) boats.stream().filter(o -> o.agree(boat) > place).count();
        }
        Entry e = boat.log.get(place);
        return what == 0 ? e.term : e.fish;
    }

    int agree(int a, int b) {
        return boat(a).agree(boat(b));
    }

    boolean newer(int a, int b) {
        return boat(a).newer(boat(b));
    }

    int leader() {
        Boat best = null;
        for (Boat b : boats) {
            if (b.leads() && (best == null || b.term > best.term)) {
                best = b;
            }
        }
        return best == null ? -1 : best.number;
    }

    int count(int what) {
        index(what >= 0 && what <= 9);
        long[] all = {
            hour, boats.size(),
            boats.stream().filter(b -> b.up).count(),
            boats.stream().filter(Boat::leads).count(),
            boats.stream().mapToInt(b -> b.term).max().getAsInt(),
            stood, begun, lost,
            boats.stream().mapToInt(b -> b.known).max().getAsInt(),
            boats.stream().mapToInt(b -> b.known).min().getAsInt(),
        };
        return (int) all[what];
    }

    int harbour(int harbour, int what) {
        index(harbour >= 0 && harbour <= 2 && what >= 0 && what <= 2);
        List<Boat> there = boats.stream().filter(b -> b.up && b.harbour == harbour).toList();
        if (what == 0) {
            return there.size();
        }
        if (what == 1) {
            return most(there.size()) ? 1 : 0;
        }
        for (Boat b : there) {
            if (there.stream().allMatch(b::newer)) {
                return b.number;
            }
        }
        return -1;
    }

    private boolean led() {
        return boats.stream().anyMatch(b -> b.leads() && most(boats.stream().filter(b::hears).count()));
    }

    int until() {
        Model m = new Model(this);
        for (int hours = 0; hours <= 60; hours++) {
            if (m.led()) {
                return hours;
            }
            m.pass(1);
        }
        return -1;
    }

    int foresee(int hours, int what) {
        argument(hours >= 1 && hours <= 50);
        index(what >= 3 && what <= 9);
        Model m = new Model(this);
        m.pass(hours);
        return m.count(what);
    }

    int advise(int b, int hours) {
        Boat boat = boat(b);
        argument(hours >= 1 && hours <= 20);
        state(boat.up);
        int[] committed = new int[3];
        for (int h = 0; h < 3; h++) {
            Model m = new Model(this);
            m.go(b, h);
            m.pass(hours);
            committed[h] = m.count(8);
        }
        int best = 2;
        for (int h = 2; h >= 0; h--) {
            if (committed[h] >= committed[best]) {
                best = h;
            }
        }
        return best;
    }

    double mean() {
        return boats.stream().mapToInt(b -> b.known).average().getAsDouble();
    }

    long digest() {
        long d = 1759;
        for (int what = 0; what <= 9; what++) {
            d = d * 31 + count(what);
        }
        for (Boat b : boats) {
            for (int what = 0; what <= 9; what++) {
                d = d * 31 + told(b.number, what);
            }
            for (int place = 0; place < b.log.size(); place++) {
                for (int what = 0; what <= 2; what++) {
                    d = d * 31 + entry(b.number, place, what);
                }
            }
        }
        return d;
    }
}
