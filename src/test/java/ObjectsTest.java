import java.util.ArrayList;
import java.util.List;

/** Promise 1, and rule 13 of LANGUAGE.md: objects share nothing, and the same calls give the same answers. */
public final class ObjectsTest {
    private static final Due T = new Due();
    private static final String FIRST = Cases.RICH + "put \"7v8m9\"\nload\npass 77\nobserve 0\nguess 5\n4 x undo\n"
        + "restore 1\ndamp 1\npass 200\n";
    private static final String SECOND = Cases.turned(1, 2, 3, 4, 5, 6, 7, 8, 9) + Cases.checked(7, 8, 9)
        + "set LATE 7\nset SEED 99\nplace -60\ncorrect 60 300\n8 x leg 33000 300 500\nsave 1\nwrite \"c1v2m3;c4v5m6\"\n"
        + "guess 1800000\nforgetSwings\npass 555\nundo\nsave 0\n3 x undo\n";

    public static void main(String[] args) {
        List<Step> first = with(FIRST);
        List<Step> second = with(SECOND);
        List<Long> dueFirst = alone(first);
        List<Long> dueSecond = alone(second);
        same("the same calls once more", alone(first), dueFirst);
        same("the same calls once more", alone(second), dueSecond);
        List<Long> gotFirst = new ArrayList<>();
        List<Long> gotSecond = new ArrayList<>();
        together(first, second, gotFirst, gotSecond);
        same("the first one of two objects", gotFirst, dueFirst);
        same("the second one of two objects", gotSecond, dueSecond);
        T.end();
    }

    private static List<Step> with(String run) {
        List<Step> steps = Step.read(run);
        steps.addAll(Cases.numbers());
        steps.addAll(Step.read("reason", "calmIn 500 500", "bestLevel 500 100"));
        return steps;
    }

    private static List<Long> alone(List<Step> steps) {
        List<Long> answers = new ArrayList<>();
        Calls x = new Calls();
        steps.forEach(step -> answers.add(x.answer(step.name(), step.arguments())));
        return answers;
    }

    /** Call by call, the one behind the other. */
    private static void together(List<Step> first, List<Step> second, List<Long> gotFirst, List<Long> gotSecond) {
        Calls x = new Calls();
        Calls y = new Calls();
        for (int i = 0; i < Math.max(first.size(), second.size()); i++) {
            if (i < first.size()) {
                gotFirst.add(x.answer(first.get(i).name(), first.get(i).arguments()));
            }
            if (i < second.size()) {
                gotSecond.add(y.answer(second.get(i).name(), second.get(i).arguments()));
            }
        }
    }

    private static void same(String told, List<Long> got, List<Long> want) {
        T.due(told + ": answers", got.size(), want.size());
        for (int i = 0; i < want.size(); i++) {
            T.due(told + ", call " + (i + 1), got.get(i), want.get(i));
        }
    }
}
