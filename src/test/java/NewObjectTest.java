/** Promise 1: what a new object answers. */
public final class NewObjectTest {
    private static final Due T = new Due();

    public static void main(String[] args) {
        GyroTrainer x = new GyroTrainer();
        long[] state = {0, 0, 0, 0, 0, 0, 2, -6, 0, 0, 0, 0, 0, 0, 0, 0, 0, 0, 0, 0, 0, 0,
            20, 250, 15000, 5000, 500, 3000, 20, 1, 10};
        for (int what = 0; what < state.length; what++) {
            T.due("new: state(" + what + ")", x.state(what), state[what]);
        }
        long none = -1000000006L;
        long[] compass = {0, 0, 0, 0, none, none, none, 0, 0, 0, 0};
        for (int what = 0; what < compass.length; what++) {
            T.due("new: compass(" + what + ")", x.compass(what), compass[what]);
        }
        T.due("new: reason", x.reason(), 1);
        T.due("new: turn", x.turn(0, 0), -1000000001L);
        T.due("new: check", x.check(0), -1000000001L);
        T.due("new: observe", x.observe(0), -1);
        T.due("new: restore 0", x.restore(0), -5);
        T.due("new: restore 1", x.restore(1), -5);
        T.due("new: undo", x.undo(), -5);
        GyroTrainer other = new GyroTrainer();
        other.start(7, 0);
        T.due("objects share nothing", x.compass(0), 0);
        T.end();
    }
}
