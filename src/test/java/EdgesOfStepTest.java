/** The edges that the document names for promise 4. */
public final class EdgesOfStepTest {
    private static final int OTHERS = 0;
    private static final int SAME = 1;
    private static final int MORE = 2;

    public static void main(String[] args) {
        noTask();
        fortyLines();
        fortyLinesAreLeft();
        noSuchLength();
        argumentsGoFirst();
        everyLength();
        aFaultIsNoStep();
        noneAndAll();
        theBoundItself();
        nextToEachOther();
        farAway();
        theRowKeepsItsOrder();
        Check.finish();
    }

    private static void judge(String present, String step, int due) {
        Desk desk = Desk.with(present);
        Check.same("from \"" + present + "\" to \"" + step + "\"", desk.step(step), due);
        Check.same("lines after it", desk.tutor.count(0), due == SAME ? 2 : 1);
    }

    /** What one way is more must be others the other way. */
    private static void fewerAndMore(String fewer, String more) {
        judge(fewer, more, MORE);
        judge(more, fewer, OTHERS);
        judge(fewer, fewer, SAME);
        judge(more, more, SAME);
    }

    private static void apart(String one, String other) {
        judge(one, other, OTHERS);
        judge(other, one, OTHERS);
    }

    private static void noTask() {
        Check.sentence(4, "IllegalStateException: there is no task");
        Desk desk = new Desk();
        desk.put("x=1");
        Check.refusesState("step with a line", () -> desk.tutor.step(3));
        Check.refusesState("step with a fault", () -> desk.tutor.step(2));
        Check.refusesState("step of nothing", () -> desk.tutor.step(0));
        Check.refusesState("step of all", () -> desk.tutor.step(80));
        Check.same("state after it", desk.state(), new Desk().state());
    }

    private static void fortyLines() {
        Check.sentence(4, "IllegalStateException: .. it has 40 lines");
        Desk desk = Desk.with("2*x=6");
        desk.fill("2*x=6", 39);
        Check.same("step to line 40", desk.step("2*x=6"), SAME);
        String before = desk.state();
        Check.same("state at 40 lines", before, "40 39 0 0; 0 0 0; slip 0; witness IllegalStateException; "
                + "printed \"\"; 2/1 0/1 0/1 6/1 =; 2 3/1; hint 3");
        Check.refusesState("step with the same solutions", () -> desk.step("2*x=6"));
        Check.refusesState("step of the plan", () -> desk.step("x=3"));
        Check.refusesState("step of slip 6", () -> desk.step("x=4"));
        Check.refusesState("step with more solutions", () -> desk.step("0=0"));
        Check.refusesState("step with a fault", () -> desk.step("x="));
        Check.same("state after them", desk.state(), before);
    }

    private static void fortyLinesAreLeft() {
        Check.sentence(4, "IllegalStateException: .. it has 40 lines");
        Desk desk = Desk.with("2*x=6");
        desk.fill("2*x=6", 39);
        Check.same("refused step at 39 lines", desk.step("x=4"), OTHERS);
        Check.same("take to line 40", desk.tutor.take(), true);
        Check.refusesState("step behind a line that was taken", () -> desk.step("x=3"));
        Check.same("undo", desk.tutor.undo(), true);
        Check.same("step at 39 lines again", desk.step("x=3"), SAME);
        Check.same("lines", desk.tutor.count(0), 40);
        Check.refusesState("step at 40 lines again", () -> desk.step("x=3"));
        Check.same("begin at 40 lines", desk.begin("x=5"), 0);
        Check.same("lines of the new task", desk.tutor.count(0), 1);
        Check.same("step of the new task", desk.step("5=x"), SAME);
    }

    private static void noSuchLength() {
        Check.sentence(4, "no such length, which is 0 to 80");
        Desk desk = Desk.with("2*x=6" + " ".repeat(75));
        desk.step("x=4");
        String before = desk.state();
        for (int length : new int[] {-1, 81, 256, Integer.MIN_VALUE, Integer.MAX_VALUE}) {
            Check.refusesArgument("step of length " + length, () -> desk.tutor.step(length));
        }
        Check.same("state after it", desk.state(), before);
    }

    private static void argumentsGoFirst() {
        Check.sentence(4, "it goes ahead of IllegalStateException");
        Desk none = new Desk();
        Desk full = Desk.with("x=1");
        full.fill("x=1", 40);
        for (int length : new int[] {-1, 81}) {
            Check.refusesArgument("length " + length + " without a task", () -> none.tutor.step(length));
            Check.refusesArgument("length " + length + " at 40 lines", () -> full.tutor.step(length));
        }
    }

    private static void everyLength() {
        Check.sentence(4, "no such length, which is 0 to 80");
        Desk desk = Desk.with("x=1");
        desk.put("x=2" + " ".repeat(77));
        Check.same("length 0", desk.tutor.step(0), -1);
        Check.same("length 1", desk.tutor.step(1), -2);
        Check.same("length 2", desk.tutor.step(2), -3);
        for (int length = 3; length <= 80; length++) {
            Check.same("length " + length, desk.tutor.step(length), OTHERS);
        }
    }

    private static void aFaultIsNoStep() {
        Check.sentence(4, "-1 less the FAULT");
        Desk desk = Desk.with("2*x=6");
        desk.step("x=4");
        String before = desk.state();
        Check.same("fault at 0", desk.step("=3"), -1);
        Check.same("fault at 4", desk.step("x=6/0"), -5);
        Check.same("fault at the end", desk.step("x="), -3);
        Check.same("fault at 79", desk.step("x=3" + " ".repeat(76) + ")"), -80);
        Check.same("fault at 80", desk.step("x=" + " ".repeat(78)), -81);
        Check.same("state after them", desk.state(), before);
    }

    private static void noneAndAll() {
        Check.sentence(4, "1 accepted, the solutions are the same .. 2: all solutions of the present line are some of "
                + "its, but not the other way round; 0 otherwise");
        judge("1=2", "x<x", SAME);
        judge("x=x", "0<1", SAME);
        judge("x>x", "x=x+1", SAME);
        fewerAndMore("1=2", "0=0");
        fewerAndMore("x<x", "x<1");
        fewerAndMore("x>x", "x>1");
        fewerAndMore("0=1", "x=1");
        fewerAndMore("x=1", "x=x");
        fewerAndMore("x<1", "x<x+1");
        fewerAndMore("x>1", "x>x-1");
    }

    private static void theBoundItself() {
        Check.sentence(4, "2: all solutions of the present line are some of its, but not the other way round");
        // Neither x<3 nor x>3 is true of 3.
        apart("x=3", "x<3");
        apart("x=3", "x>3");
        apart("x<3", "x>3");
        apart("x<4", "x>3");
        apart("x<3", "x>4");
        apart("x=3", "x=4");
        judge("x<3", "3>x", SAME);
        judge("-x<-3", "x>3", SAME);
        judge("-x<3", "x>3", OTHERS);
        judge("-x=3", "x=-3", SAME);
    }

    private static void nextToEachOther() {
        Check.sentence(4, "1 accepted, the solutions are the same");
        fewerAndMore("x<9997/9998", "x<9998/9999");
        fewerAndMore("x>9998/9999", "x>9997/9998");
        fewerAndMore("x<-9998/9999", "x<-9997/9998");
        fewerAndMore("x=9997/9998", "x<9998/9999");
        fewerAndMore("x=9998/9999", "x>9997/9998");
        apart("x=9998/9999", "x<9997/9998");
        apart("x=9997/9998", "x=9998/9999");
        fewerAndMore("x<0", "x<1/9999");
        fewerAndMore("x<-1/9999", "x<0");
        fewerAndMore("x>0", "x>-1/9999");
        fewerAndMore("x=0", "x<1/9999");
        // They differ by less than one part in 10 to the 16th.
        fewerAndMore("9999*x<9997/9998", "9999*x<9998/9999");
        fewerAndMore("9999*x<1/9999", "9998*x<1/9998");
    }

    private static void farAway() {
        Check.sentence(4, "1 accepted, the solutions are the same");
        // Products of the parts of these bounds would not fit 64 bits.
        String low = "9999/9998*x-9995/9996<9995/9994*x+9993/9992";
        String high = "9999/9998*x-9997/9996<9995/9994*x+9993/9992";
        fewerAndMore(low, high);
        fewerAndMore(low.replace('<', '='), high);
        fewerAndMore(high.replace('<', '>'), low.replace('<', '>'));
        apart(low.replace('<', '='), high.replace('<', '='));
        fewerAndMore("x/9999<9998", "x/9999<9999");
        fewerAndMore("x/9999>-9998", "x/9999>-9999");
        fewerAndMore("x/9998+9998>x/9999-9999", "x/9998+9999>x/9999-9999");
    }

    private static void theRowKeepsItsOrder() {
        Check.sentence(4, "it is the present line");
        Desk desk = Desk.with("x=1");
        for (int n = 2; n <= 40; n++) {
            Check.same("step to line " + n, desk.step(n + "*x=" + n), SAME);
            Check.same("present line " + n, desk.tutor.line(0), n);
        }
    }
}
