/** Promise 15: count. */
public final class CountTest {
    public static void main(String[] args) {
        Desk desk = new Desk();
        Check.same("without a task", desk.counts(), "0 0 0 0");
        desk.begin("2*x+4=6");
        Check.same("a task", desk.counts(), "1 0 0 0");
        desk.step("2*x=2");
        Check.same("accepted", desk.counts(), "2 1 0 0");
        desk.step("x=0");
        desk.step("x=5");
        Check.same("others", desk.counts(), "2 1 2 0");
        desk.step("x<5");
        desk.step("0=0");
        desk.step("x>0");
        Check.same("more", desk.counts(), "2 1 2 3");
        desk.step("x=");
        desk.begin("x=");
        Check.same("faults", desk.counts(), "2 1 2 3");
        desk.tutor.take();
        Check.same("take", desk.counts(), "3 1 2 3");
        desk.tutor.undo();
        desk.tutor.undo();
        Check.same("undo", desk.counts(), "1 1 2 3");
        desk.begin("x=1");
        Check.same("a new task", desk.counts(), "1 1 2 3");
        desk.step("x=1");
        desk.step("x=2");
        Check.same("its steps", desk.counts(), "2 2 3 3");
        for (int what : new int[] {-1, 4, Integer.MIN_VALUE, Integer.MAX_VALUE}) {
            Check.same("count " + what, desk.tutor.count(what), -1);
        }
        Check.finish();
    }
}
