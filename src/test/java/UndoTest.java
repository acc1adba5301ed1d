import java.util.ArrayList;
import java.util.List;

/** Promises 27 to 29: undo, save, restore, and which calls are changes. */
public final class UndoTest {
    private static final Due T = new Due();

    /** A call, so that a list of calls can be gone through. */
    private interface Call {
        int on(GyroTrainer x);
    }

    public static void main(String[] args) {
        whatIsAChange();
        whatIsNone();
        everythingIsUndone();
        sixStates();
        unchangedStatesCount();
        wrongSlots();
        slots();
        linesAreRestored();
        everythingIsRestored();
        T.end();
    }

    /** An object in which much that can be looked at differs from that of a new one. */
    private static GyroTrainer rich() {
        GyroTrainer x = new GyroTrainer();
        x.set(GyroTrainer.WAIT, 0);
        x.place(40);
        x.correct(-3, 20);
        x.line(9000);
        x.line(123);
        x.start(100000, 50);
        x.steer(4500, 90);
        x.pass(170);
        x.damp(3);
        x.pass(20);
        for (int i = 0; i < 4; i++) {
            x.observe(i % 2);
        }
        x.guess(77);
        x.leg(3000, 40, 50);
        x.leg(13000, 60, 70);
        x.leg(23000, 80, 90);
        return x;
    }

    /** All that can be looked at, but for the pad and the history. */
    private static List<Integer> seen(GyroTrainer x) {
        List<Integer> seen = new ArrayList<>();
        for (int what = 0; what < 31; what++) {
            if (what != 20 && what != 21) {
                seen.add(x.state(what));
            }
        }
        for (int what = 0; what < 11; what++) {
            seen.add(x.compass(what));
        }
        for (int index = 0; index < 8; index++) {
            seen.add(x.turn(index, 0));
            seen.add(x.turn(index, 1));
            seen.add(x.check(index));
        }
        seen.add(x.reason());
        seen.add(x.calmIn(500, 300));
        return seen;
    }

    private static void same(String told, List<Integer> got, List<Integer> want) {
        for (int i = 0; i < want.size(); i++) {
            T.due(told + ", number " + i, got.get(i), want.get(i));
        }
    }

    private static List<Call> changes() {
        return List.of(x -> x.set(GyroTrainer.GAIN, 55), x -> x.set(GyroTrainer.SEED, 9), x -> x.start(-7, 8),
            x -> x.line(77), x -> x.steer(1, 2), x -> x.leg(1, 2, 3), x -> x.pass(60), x -> x.pass(600),
            x -> x.damp(4), x -> x.correct(5, 6), x -> x.forgetSwings(), x -> x.observe(1), x -> x.guess(5),
            x -> x.load(), x -> x.restore(1));
    }

    private static GyroTrainer readyForAll() {
        GyroTrainer x = rich();
        x.save(1);
        x.pass(33);
        x.damp(1);
        x.put('c' << 24 | '1' << 16 | 'v' << 8 | '2');
        x.put('m' << 8 | '3');
        return x;
    }

    private static void whatIsAChange() {
        for (Call call : changes()) {
            GyroTrainer x = readyForAll();
            while (x.state(21) > 2) {
                x.undo();
            }
            List<Integer> before = seen(x);
            call.on(x);
            T.due("it is a change", x.state(21), 3);
            T.due("undo", x.undo(), 2);
            same("undone", seen(x), before);
        }
        GyroTrainer x = new GyroTrainer();
        x.place(7);
        T.due("place is a change", x.state(21), 1);
        T.due("undo of place", x.undo(), 0);
        T.due("latitude", x.compass(8), 0);
    }

    private static void whatIsNone() {
        List<Call> calls = List.of(x -> x.compass(0), x -> x.turn(0, 0), x -> x.check(0), x -> x.reason(),
            x -> x.state(0), x -> x.wave(0, 0), x -> x.restAt(0, 0, 0), x -> x.calmIn(0, 1), x -> x.bestLevel(0, 1),
            x -> x.put('c'), x -> x.wipe(), x -> x.fault(), x -> x.save(0), x -> x.undo(),
            x -> x.set(-1, 0), x -> x.start(900001, 0), x -> x.place(71), x -> x.line(-1), x -> x.steer(-1, 0),
            x -> x.leg(0, 0, 0), x -> x.pass(0), x -> x.damp(5), x -> x.correct(71, 0), x -> x.observe(0),
            x -> x.guess(1800001), x -> x.load(), x -> x.restore(1), x -> x.restore(2));
        for (int i = 0; i < calls.size(); i++) {
            GyroTrainer x = new GyroTrainer();
            calls.get(i).on(x);
            T.due("call " + i + " is no change", x.state(21), 0);
            T.due("no undo behind call " + i, x.undo(), -5);
        }
    }

    private static void everythingIsUndone() {
        GyroTrainer x = readyForAll();
        List<Integer> before = seen(x);
        x.start(1, 2);
        x.pass(600);
        x.damp(0);
        x.observe(0);
        x.steer(5, 6);
        x.set(GyroTrainer.LATE, 1);
        x.wipe();
        x.put('z');
        for (int left = 5; left >= 0; left--) {
            T.due("undo", x.undo(), left);
        }
        same("six changes undone", seen(x), before);
        T.due("the pad is not undone", x.state(20), 1);
        T.due("no more", x.undo(), -5);
        same("no more: nothing is different", seen(x), before);
        GyroTrainer y = readyForAll();
        T.due("the minutes pass as before", x.pass(100), y.pass(100));
        same("it goes on as if nothing had been", seen(x), seen(y));
    }

    private static void sixStates() {
        GyroTrainer x = new GyroTrainer();
        for (int i = 1; i <= 10; i++) {
            x.start(i, 0);
            T.due("states", x.state(21), Math.min(i, 6));
        }
        for (int i = 9; i >= 4; i--) {
            T.due("undo", x.undo(), i - 4);
            T.due("error", x.compass(0), i);
        }
        T.due("the oldest are dropped", x.undo(), -5);
        T.due("error", x.compass(0), 4);
        x.start(50, 0);
        x.start(60, 0);
        T.due("undo", x.undo(), 1);
        T.due("error", x.compass(0), 50);
        x.start(70, 0);
        T.due("undo is no change", x.undo(), 1);
        T.due("undo", x.undo(), 0);
        T.due("error", x.compass(0), 4);
    }

    private static void unchangedStatesCount() {
        GyroTrainer x = new GyroTrainer();
        x.set(GyroTrainer.GAIN, 20);
        x.start(0, 0);
        x.place(0);
        x.steer(0, 0);
        x.correct(0, 0);
        x.forgetSwings();
        T.due("states", x.state(21), 6);
        x.start(5, 0);
        for (int i = 0; i < 6; i++) {
            x.undo();
        }
        T.due("error", x.compass(0), 0);
        T.due("no more", x.undo(), -5);
    }

    private static void wrongSlots() {
        GyroTrainer x = new GyroTrainer();
        int[] wrong = {-1, 2, Integer.MIN_VALUE, Integer.MAX_VALUE};
        for (int slot : wrong) {
            T.due("save " + slot, x.save(slot), -2);
            T.due("restore " + slot, x.restore(slot), -2);
        }
        T.due("nothing saved", x.restore(0), -5);
        T.due("nothing saved", x.restore(1), -5);
        T.due("save", x.save(1), 0);
        T.due("the other slot is empty", x.restore(0), -5);
        T.due("no change", x.state(21), 0);
        T.due("restore", x.restore(1), 0);
        T.due("a change", x.state(21), 1);
    }

    private static void slots() {
        GyroTrainer x = new GyroTrainer();
        x.pass(5);
        x.start(500, 0);
        T.due("save 0", x.save(0), 5);
        x.pass(6);
        x.start(600, 0);
        T.due("save 1", x.save(1), 11);
        x.pass(7);
        T.due("restore 0", x.restore(0), 5);
        T.due("error", x.compass(0), 500);
        T.due("restore 1", x.restore(1), 11);
        T.due("error", x.compass(0), 600);
        x.start(1, 1);
        T.due("the slot keeps it", x.restore(1), 11);
        T.due("error", x.compass(0), 600);
        T.due("states", x.state(21), 6);
        x.undo();
        T.due("undo of restore", x.compass(0), 1);
        x.undo();
        x.undo();
        T.due("undo of the restore before", x.compass(0), 500);
        T.due("the slots are not undone", x.restore(1), 11);
        x.pass(100);
        T.due("save again", x.save(0), 111);
        T.due("overwritten", x.restore(0), 111);
    }

    private static void linesAreRestored() {
        GyroTrainer x = new GyroTrainer();
        x.set(GyroTrainer.NOISE, 0);
        x.line(10);
        x.save(0);
        x.undo();
        x.line(20);
        T.due("the new line", x.observe(0), 20);
        x.restore(0);
        T.due("the line that was saved", x.observe(0), 10);
        x.undo();
        x.undo();
        T.due("the new line again", x.observe(0), 20);
    }

    private static void everythingIsRestored() {
        GyroTrainer x = rich();
        List<Integer> before = seen(x);
        T.due("save", x.save(0), 190);
        x.put('c');
        x.pass(600);
        x.damp(0);
        x.set(GyroTrainer.NOISE, 1);
        x.observe(0);
        x.line(5);
        x.guess(1);
        x.correct(1, 1);
        x.forgetSwings();
        x.steer(0, 0);
        int states = x.state(21);
        T.due("restore", x.restore(0), 190);
        same("restored", seen(x), before);
        T.due("the pad is not restored", x.state(20), 1);
        T.due("the history is not restored", x.state(21), states);
        x.pass(50);
        T.due("restore again", x.restore(0), 190);
        same("restored again", seen(x), before);
    }
}
