/** All that a fleet answers. */
final class Answers {
    private Answers() {
    }

    /** What all calls that change nothing answer, a line each; at most some 450 calls. */
    static String of(FleetTerms x) {
        StringBuilder s = new StringBuilder();
        int boats = x.count(1);
        for (int what = 0; what < 10; what++) {
            s.append("count(" + what + ") " + x.count(what) + "\n");
        }
        for (int boat = 0; boat < boats; boat++) {
            ofBoat(s, x, boat);
        }
        for (int a = 0; a < boats; a++) {
            for (int b = 0; b < boats; b++) {
                s.append("agree(" + a + ", " + b + ") " + x.agree(a, b) + "\n");
                s.append("newer(" + a + ", " + b + ") " + x.newer(a, b) + "\n");
            }
        }
        for (int harbour = 0; harbour < 3; harbour++) {
            for (int what = 0; what < 3; what++) {
                s.append("harbour(" + harbour + ", " + what + ") " + x.harbour(harbour, what) + "\n");
            }
        }
        for (int what = 3; what < 10; what++) {
            s.append("foresee(9, " + what + ") " + x.foresee(9, what) + "\n");
        }
        s.append("leader() " + x.leader() + "\n").append("until() " + x.until() + "\n");
        s.append("mean() " + x.mean() + "\n").append("digest() " + x.digest() + "\n");
        return s.toString();
    }

    private static void ofBoat(StringBuilder s, FleetTerms x, int boat) {
        for (int what = 0; what < 10; what++) {
            s.append("told(" + boat + ", " + what + ") " + x.told(boat, what) + "\n");
        }
        int entries = x.told(boat, 7);
        for (int place = 0; place < entries; place++) {
            for (int what = 0; what < 3; what++) {
                s.append("entry(" + boat + ", " + place + ", " + what + ") " + x.entry(boat, place, what) + "\n");
            }
        }
        if (x.told(boat, 4) == 1) {
            s.append("advise(" + boat + ", 9) " + x.advise(boat, 9) + "\n");
        }
    }
}
