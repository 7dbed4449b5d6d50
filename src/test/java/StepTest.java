/** Promise 4: step. */
public final class StepTest {
    private static final int OTHERS = 0;
    private static final int SAME = 1;
    private static final int MORE = 2;

    public static void main(String[] args) {
        everyKindAgainstEveryOther();
        bounds();
        manySteps();
        nearBounds();
        faults();
        fortyLines();
        wrongCalls();
        Check.finish();
    }

    private static void judge(String present, String step, int due) {
        Desk desk = Desk.with(present);
        Check.same("from \"" + present + "\" to \"" + step + "\"", desk.step(step), due);
        Check.same("lines after it", desk.tutor.count(0), due == SAME ? 2 : 1);
    }

    private static void everyKindAgainstEveryOther() {
        String[] lines = {"1=2", "x=x", "x=3", "x<3", "x>3"};
        int[][] due = {
            {SAME, MORE, MORE, MORE, MORE},
            {OTHERS, SAME, OTHERS, OTHERS, OTHERS},
            {OTHERS, MORE, SAME, OTHERS, OTHERS},
            {OTHERS, MORE, OTHERS, SAME, OTHERS},
            {OTHERS, MORE, OTHERS, OTHERS, SAME},
        };
        for (int i = 0; i < lines.length; i++) {
            for (int k = 0; k < lines.length; k++) {
                judge(lines[i], lines[k], due[i][k]);
            }
        }
    }

    private static void bounds() {
        judge("x=3", "x=4", OTHERS);
        judge("x=3", "x<4", MORE);
        judge("x=3", "x<2", OTHERS);
        judge("x=3", "x>2", MORE);
        judge("x=3", "x>4", OTHERS);
        judge("x<3", "x<4", MORE);
        judge("x<3", "x<2", OTHERS);
        judge("x>3", "x>2", MORE);
        judge("x>3", "x>4", OTHERS);
        judge("x<3", "x>2", OTHERS);
        judge("x<3", "x=2", OTHERS);
        judge("x>3", "x=4", OTHERS);
        judge("x<-1/2", "x<-1/3", MORE);
        judge("x>-1/2", "x>-1/3", OTHERS);
        judge("x<1/3", "x<1/2", MORE);
        judge("x<-3/2", "x<-4/3", MORE);
        judge("x>7/5", "x>10/7", OTHERS);
        judge("x>10/7", "x>7/5", MORE);
        judge("x<7/5", "x<7/5", SAME);
        judge("x<3", "x<7/2", MORE);
        judge("x<7/2", "x<3", OTHERS);
        judge("x>3", "x>7/2", OTHERS);
        judge("x>7/2", "x>3", MORE);
        judge("x<1/2", "x<2/5", OTHERS);
        judge("x<2/5", "x<1/2", MORE);
    }

    private static void manySteps() {
        judge("x<3", "3>x", SAME);
        judge("-x<3", "x>-3", SAME);
        judge("-2*x<8", "x<-4", OTHERS);
        judge("x=x+1", "5<4", SAME);
        judge("x<x+1", "0=0", SAME);
        judge("x>x", "1=2", SAME);
        judge("2*x+1=x/3", "(2*x+1)*3=x", SAME);
        judge("x/2=1/3", "6=9*x", SAME);
        Desk desk = Desk.with("2*x=6");
        Check.same("refused", desk.step("x=4"), OTHERS);
        Check.same("present line stays", desk.parts(), "2/1 0/1 0/1 6/1 =");
        Check.same("more", desk.step("x>2"), MORE);
        Check.same("present line stays", desk.parts(), "2/1 0/1 0/1 6/1 =");
        Check.same("accepted", desk.step("x=3"), SAME);
        Check.same("present line", desk.parts(), "1/1 0/1 0/1 3/1 =");
        Check.same("counts", desk.counts(), "2 1 1 1");
    }

    /** Their parts have up to 17 digits: products of them don't fit 64 bits. */
    private static void nearBounds() {
        String low = "9973/9967*x+1/9949<9967/9973*x+1/9941";
        String high = "9973/9967*x+1/9949<9967/9973*x+2/9941";
        judge(low, high, MORE);
        judge(high, low, OTHERS);
        judge(low, low, SAME);
        judge("9999/9998*x+9997/9996<9995/9994*x+9993/9992", "9995/9994*x+9993/9992>9999/9998*x+9997/9996", SAME);
        judge("9999/9998*x-9997/9996<9995/9994*x+9993/9992", "9999/9998*x-9995/9996<9995/9994*x+9993/9992", OTHERS);
        judge("9999/9998*x-9995/9996<9995/9994*x+9993/9992", "9999/9998*x-9997/9996<9995/9994*x+9993/9992", MORE);
        judge("9999/9998*x+9997/9996=9995/9994*x-9993/9992", "9999/9998*x+9997/9996<9995/9994*x-9993/9991", OTHERS);
        judge("9999/9998*x+9997/9996=9995/9994*x-9993/9992", "9999/9998*x+9997/9996>9995/9994*x-9993/9991", MORE);
    }

    private static void faults() {
        Desk desk = Desk.with("2*x=6");
        Check.same("step with a fault", desk.step("x=6/0"), -5);
        Check.same("step without an end", desk.step("x="), -3);
        Check.same("step of nothing", desk.step(""), -1);
        Check.same("counts", desk.counts(), "1 0 0 0");
        Check.same("present line", desk.parts(), "2/1 0/1 0/1 6/1 =");
    }

    private static void fortyLines() {
        Desk desk = Desk.with("x=1");
        for (int n = 2; n <= 40; n++) {
            Check.same("step to line " + n, desk.step("x=1"), SAME);
        }
        Check.same("lines", desk.tutor.count(0), 40);
        Check.refusesState("step to line 41", () -> desk.step("x=1"));
        Check.refusesState("step with other solutions", () -> desk.step("x=2"));
        Check.refusesState("step with a fault", () -> desk.step("x="));
        Check.refusesArgument("step of a wrong length", () -> desk.tutor.step(81));
        Check.same("counts", desk.counts(), "40 39 0 0");
        Check.same("undo", desk.tutor.undo(), true);
        Check.same("step again", desk.step("x=2"), OTHERS);
        Check.same("step again", desk.step("2*x=2"), SAME);
        Check.same("present line", desk.parts(), "2/1 0/1 0/1 2/1 =");
        Check.refusesState("step again to line 41", () -> desk.step("x=1"));
        Check.same("begin again", desk.begin("x=5"), 0);
        Check.same("step of a new task", desk.step("x=5"), SAME);
    }

    private static void wrongCalls() {
        TutorLines none = new TutorLines();
        Desk desk = Desk.with("x=1");
        for (int length : new int[] {-1, 81, Integer.MIN_VALUE, Integer.MAX_VALUE}) {
            Check.refusesArgument("step of length " + length, () -> desk.tutor.step(length));
            Check.refusesArgument("step of length " + length + " without a task", () -> none.step(length));
        }
        Check.refusesState("step without a task", () -> none.step(0));
        Check.refusesState("step without a task", () -> none.step(80));
        Check.same("step of 80 bytes", desk.step(" ".repeat(77) + "x=1"), SAME);
    }
}
