/** Promise 9: undo. */
public final class UndoTest {
    public static void main(String[] args) {
        Desk desk = Desk.with("2*x+4=6");
        Check.same("undo of the first", desk.tutor.undo(), false);
        Check.same("first line", desk.parts(), "2/1 4/1 0/1 6/1 =");
        desk.step("2*x=2");
        desk.tutor.take();
        Check.same("lines", desk.tutor.count(0), 3);
        Check.same("undo of what was taken", desk.tutor.undo(), true);
        Check.same("second line", desk.parts(), "2/1 0/1 0/1 2/1 =");
        Check.same("undo of a step", desk.tutor.undo(), true);
        Check.same("first line", desk.parts(), "2/1 4/1 0/1 6/1 =");
        Check.same("undo of the first", desk.tutor.undo(), false);
        Check.same("counts and points stay", desk.counts() + ", " + desk.points(), "1 1 0 0, 0 1 0");
        Check.same("another step", desk.step("x+2=3"), 1);
        Check.same("its line", desk.parts(), "1/1 2/1 0/1 3/1 =");
        allFortyLines();
        Check.refusesState("undo without a task", () -> new TutorLines().undo());
        Check.finish();
    }

    private static void allFortyLines() {
        Desk desk = Desk.with("x=1");
        for (int n = 2; n <= 40; n++) {
            Check.same("step", desk.step(n + "*x=" + n), 1);
        }
        for (int n = 40; n >= 2; n--) {
            Check.same("line " + n, desk.tutor.line(0), n);
            Check.same("undo of line " + n, desk.tutor.undo(), true);
        }
        Check.same("line 1", desk.parts(), "1/1 0/1 0/1 1/1 =");
        Check.same("undo of line 1", desk.tutor.undo(), false);
    }
}
