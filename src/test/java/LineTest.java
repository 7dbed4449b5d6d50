/** Promise 10: line. */
public final class LineTest {
    public static void main(String[] args) {
        Desk desk = Desk.with("3/2*x-4/5<-6/7*x+8/9");
        int[] due = {3, 2, -4, 5, -6, 7, 8, 9, 1};
        for (int what = 0; what < due.length; what++) {
            Check.same("line " + what, desk.tutor.line(what), due[what]);
        }
        Check.same("sides of numbers", Desk.with("0>6/4").parts(), "0/1 0/1 0/1 3/2 >");
        Check.same("sides of x", Desk.with("-x=9999*x").parts(), "-1/1 0/1 9999/1 0/1 =");
        presentLine(desk);
        wrongCalls(desk);
        Check.finish();
    }

    private static void presentLine(Desk desk) {
        desk.begin("2*x=6");
        desk.step("x=4");
        Check.same("after a refused step", desk.parts(), "2/1 0/1 0/1 6/1 =");
        desk.step("3=x");
        Check.same("after an accepted step", desk.parts(), "0/1 3/1 1/1 0/1 =");
        desk.tutor.take();
        Check.same("after take", desk.parts(), "-1/1 3/1 0/1 0/1 =");
        desk.tutor.undo();
        Check.same("after undo", desk.parts(), "0/1 3/1 1/1 0/1 =");
    }

    private static void wrongCalls(Desk desk) {
        TutorLines none = new TutorLines();
        for (int what : new int[] {-1, 9, Integer.MIN_VALUE, Integer.MAX_VALUE}) {
            Check.refusesArgument("line " + what, () -> desk.tutor.line(what));
            Check.refusesArgument("line " + what + " without a task", () -> none.line(what));
        }
        Check.refusesState("line 0 without a task", () -> none.line(0));
        Check.refusesState("line 8 without a task", () -> none.line(8));
    }
}
