/** One new object, called by the names of the document, at most as often as the document promises answers. */
final class Calls {
    static final int MOST = 512;

    private final GyroTrainer x = new GyroTrainer();
    private int made;

    /** How many calls it has answered. */
    int made() {
        return made;
    }

    long answer(String name, long... v) {
        made++;
        if (made > MOST) {
            throw new IllegalStateException("a test must not call one object more than " + MOST + " times");
        }
        int p = v.length > 0 ? (int) v[0] : 0;
        int q = v.length > 1 ? (int) v[1] : 0;
        int r = v.length > 2 ? (int) v[2] : 0;
        switch (name) {
            case "set": return x.set(p, q);
            case "start": return x.start(p, q);
            case "place": return x.place(p);
            case "line": return x.line(p);
            case "steer": return x.steer(p, q);
            case "leg": return x.leg(p, q, r);
            case "pass": return x.pass(p);
            case "damp": return x.damp(p);
            case "correct": return x.correct(p, q);
            case "forgetSwings": return x.forgetSwings();
            case "observe": return x.observe(p);
            case "guess": return x.guess(p);
            case "compass": return x.compass(p);
            case "turn": return x.turn(p, q);
            case "check": return x.check(p);
            case "reason": return x.reason();
            case "state": return x.state(p);
            case "wave": return x.wave(p, q);
            case "restAt": return x.restAt(p, q, r);
            case "calmIn": return x.calmIn(p, q);
            case "bestLevel": return x.bestLevel(p, q);
            case "put": return x.put(v[0]);
            case "wipe": return x.wipe();
            case "fault": return x.fault();
            case "load": return x.load();
            case "undo": return x.undo();
            case "save": return x.save(p);
            case "restore": return x.restore(p);
            default: throw new IllegalArgumentException(name);
        }
    }
}
