import java.util.ArrayList;
import java.util.HashSet;
import java.util.List;
import java.util.Set;

/**
 * The cases of a promise: each has a name, the sentence of the document that it holds the program
 * to, and a run of calls on a new object (Step tells how the lines of a run are read).
 *
 * That a call changes nothing is tested by two objects, one with the call and one without it: what
 * can be looked at, what later calls do, what can be undone and what can be restored is the same.
 * So it is tested, too, that undo() and restore() bring everything back.
 */
final class Cases {
    /** Swings, checks, lines, legs, slots, pad: all of it is there, and the history is full. */
    static final String RICH = """
        set WAIT 5
        place 40
        correct -3 20
        line 9000
        line 35999
        start 100000 50
        steer 4500 90
        pass 170
        save 0
        damp 3
        pass 20
        4 x observe 1
        guess 77
        leg 3000 40 50
        leg 13000 60 70
        save 1
        pass 7
        write "c1v2m3;c"
        """;

    /** The same with two changes less, so that the history has room for two more. */
    static final String ROOM = RICH + "2 x undo\n";

    /** Errors below 1000 have no force then, tilts stay, and the error moves by the tilt: runs can be told by hand. */
    static final String STILL = """
        set GAIN 1
        set RATE 1000
        set WAIT 0
        damp 0
        """;

    private static final List<List<Step>> AFTERWARDS = List.of(goingOn(), undoing(), restoring(), loading());
    private static final Set<String> OF_PAD_AND_HISTORY = Set.of("state 20", "state 21", "fault");

    private final String promise;
    private final Set<String> names = new HashSet<>();
    private String sentence = "";
    private int answers;
    private int wrong;

    Cases(String promise) {
        this.promise = promise;
    }

    /** The sentence of the document for the cases that come. */
    void says(String words) {
        sentence = words;
    }

    void test(String name, String... runs) {
        begin(name);
        try {
            List<Step> steps = Step.read(runs);
            Calls x = new Calls();
            for (int i = 0; i < steps.size(); i++) {
                play(name, x, steps.get(i));
                changesNothing(name, steps, i);
            }
        } catch (RuntimeException e) {
            fail(name, "ended with " + e);
        }
    }

    /** A call behind a run changes each of the numbers that are named, and no other one that can be looked at. */
    void only(String name, String run, String call, String... changed) {
        begin(name);
        try {
            Calls x = new Calls();
            Step.read(run).forEach(step -> play(name, x, step));
            List<Step> numbers = numbers();
            List<Long> before = answers(x, numbers);
            Step.read(call).forEach(step -> play(name, x, step));
            List<Long> after = answers(x, numbers);
            Set<String> due = new HashSet<>(List.of(changed));
            for (int i = 0; i < numbers.size(); i++) {
                String look = numbers.get(i).told();
                if (due.remove(look) == before.get(i).equals(after.get(i))) {
                    fail(name, call + ": " + look + " was " + before.get(i) + ", and is " + after.get(i));
                }
            }
            if (!due.isEmpty()) {
                fail(name, "there is no such number: " + due);
            }
        } catch (RuntimeException e) {
            fail(name, "ended with " + e);
        }
    }

    /** A call behind a run that leaves room in the history is taken back by undo: all is as it was without it. */
    void undone(String name, String run, String call) {
        sameBehind(name, run + call + "\nundo", run);
    }

    /** Behind both runs all is the same: what can be looked at, what is done, undone and restored then. */
    void sameBehind(String name, String run, String other) {
        begin(name);
        Calls x = new Calls();
        Step.read(run).forEach(step -> play(name, x, step));
        for (List<Step> afterwards : AFTERWARDS) {
            same(name, run, Step.read(run), Step.read(other), afterwards, Set.of());
        }
    }

    /** What is saved behind a run is restored behind later calls: all is as it was, but for pad and history. */
    void restored(String name, String run, String later) {
        begin(name);
        for (int slot = 0; slot < 2; slot++) {
            String save = "\nsave " + slot + "\n";
            List<Step> restored = Step.read(run + save + later + "\nrestore " + slot);
            Calls x = new Calls();
            restored.forEach(step -> play(name, x, step));
            same(name, later, restored, Step.read(run + save), goingOn(), OF_PAD_AND_HISTORY);
        }
    }

    /** Ends the program with exit code 1 if an answer was wrong, or if there was no case. */
    void end() {
        System.out.println(promise + ": " + names.size() + " cases, " + answers + " answers, " + wrong + " wrong");
        if (wrong != 0 || names.isEmpty()) {
            System.exit(1);
        }
    }

    private void fail(String name, String what) {
        wrong++;
        System.out.println(promise + ": " + name + ": " + what + " (the document: " + sentence + ")");
    }

    private static boolean isWithoutChange(Step step) {
        return step.mark() == Step.REFUSED || step.mark() == Step.NO_CHANGE;
    }

    private void begin(String name) {
        if (!names.add(name) || sentence.isEmpty()) {
            throw new IllegalArgumentException("a case needs a sentence and a name of its own: " + name);
        }
    }

    private void play(String name, Calls x, Step step) {
        long answer = x.answer(step.name(), step.arguments());
        answers++;
        if (!step.isMet(answer)) {
            fail(name, step.told() + " (call " + x.made() + ") answered " + answer + ", due is "
                + (step.mark() == Step.ON_THE_WAY ? "no error" : step.due()));
        }
    }

    private List<Long> answers(Calls x, List<Step> steps) {
        List<Long> got = new ArrayList<>();
        for (Step step : steps) {
            got.add(x.answer(step.name(), step.arguments()));
            answers++;
        }
        return got;
    }

    private void changesNothing(String name, List<Step> steps, int last) {
        if (!isWithoutChange(steps.get(last))) {
            return;
        }
        List<Step> with = steps.subList(0, last + 1);
        List<Step> without = with.stream().filter(step -> !isWithoutChange(step)).toList();
        for (List<Step> afterwards : AFTERWARDS) {
            same(name, steps.get(last).told(), with, without, afterwards, Set.of());
        }
    }

    /** Behind both runs the same calls answer the same, but for those that are left out. */
    private void same(String name, String what, List<Step> with, List<Step> without, List<Step> afterwards,
            Set<String> leftOut) {
        Calls x = new Calls();
        Calls y = new Calls();
        with.forEach(step -> x.answer(step.name(), step.arguments()));
        without.forEach(step -> y.answer(step.name(), step.arguments()));
        for (Step later : afterwards) {
            long got = x.answer(later.name(), later.arguments());
            long want = y.answer(later.name(), later.arguments());
            answers++;
            if (got != want && !leftOut.contains(later.told())) {
                fail(name, "behind " + what.replace('\n', ',') + ": " + later.told() + " answered " + got + ", and "
                    + want + " if that had changed nothing");
                return;
            }
        }
    }

    private static List<Step> goingOn() {
        List<Step> steps = looks();
        for (int line = 0; line < 6; line++) {
            steps.addAll(Step.read("observe " + line));
        }
        steps.addAll(Step.read("pass 1"));
        steps.addAll(looks());
        steps.addAll(Step.read("pass 150"));
        steps.addAll(numbers());
        return steps;
    }

    private static List<Step> undoing() {
        List<Step> steps = new ArrayList<>();
        for (int i = 0; i < 7; i++) {
            steps.addAll(Step.read("undo"));
            steps.addAll(fewNumbers());
        }
        return steps;
    }

    private static List<Step> restoring() {
        List<Step> steps = Step.read("restore 0");
        steps.addAll(looks());
        steps.addAll(Step.read("restore 1"));
        steps.addAll(looks());
        return steps;
    }

    private static List<Step> loading() {
        List<Step> steps = Step.read("damp 1", "load");
        steps.addAll(fewNumbers());
        steps.addAll(Step.read("put \"m1\"", "fault", "load", "wipe", "leg 1 2 3", "place 5"));
        steps.addAll(fewNumbers());
        return steps;
    }

    /** Fewer of them, so that a long run and many undos stay under the number of calls that an object is good for. */
    private static List<Step> fewNumbers() {
        List<Step> steps = new ArrayList<>();
        for (int what = 0; what <= 30; what++) {
            steps.addAll(Step.read("state " + what));
        }
        for (int what : new int[] {0, 1, 2, 3, 7, 8, 9, 10}) {
            steps.addAll(Step.read("compass " + what));
        }
        return steps;
    }

    /** All that can be looked at by itself. */
    static List<Step> numbers() {
        List<Step> steps = fewNumbers();
        steps.addAll(Step.read("compass 4", "compass 5", "compass 6"));
        for (int index = 0; index < 8; index++) {
            steps.addAll(Step.read("turn " + index + " 0", "turn " + index + " 1"));
        }
        for (int index = 0; index < 5; index++) {
            steps.addAll(Step.read("check " + index));
        }
        steps.addAll(Step.read("fault"));
        return steps;
    }

    private static List<Step> looks() {
        List<Step> steps = numbers();
        steps.addAll(Step.read("reason", "calmIn 3000 200", "bestLevel 3000 100"));
        return steps;
    }

    // ---- parts of runs

    /** Behind STILL: turning points with these errors, at the minutes 1, 2, .. */
    static String turned(int... errors) {
        StringBuilder run = new StringBuilder(STILL + "start 0 1\npass 1\n");
        int tilt = -1;
        for (int error : errors) {
            run.append("start ").append(error).append(' ').append(tilt).append("\npass 1 = 1\n");
            tilt = -tilt;
        }
        return run.toString();
    }

    /** Checks with these differences, the latest one last. */
    static String checked(int... differences) {
        StringBuilder run = new StringBuilder("set NOISE 0\nline 0\n");
        for (int difference : differences) {
            run.append("start ").append(100 * difference).append(" 0\nobserve 0\n");
        }
        return run.toString();
    }
}
