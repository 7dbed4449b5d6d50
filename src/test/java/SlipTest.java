/** Promise 5: slip. */
public final class SlipTest {
    public static void main(String[] args) {
        everySlip();
        conditions();
        theLowestIsTold();
        theRelationCounts();
        largeParts();
        howLongItIsKept();
        Check.finish();
    }

    private static void explain(String present, String step, int answer, int due) {
        Desk desk = Desk.with(present);
        String what = "from \"" + present + "\" to \"" + step + "\"";
        Check.same(what, desk.step(step), answer);
        Check.same("slip " + what, desk.tutor.slip(), due);
    }

    private static void everySlip() {
        explain("2*x=6+x", "3*x=6", 0, 1);
        explain("2*x+1=6+x", "3*x+1=6", 0, 1);
        explain("2*x+1=6-x/2", "3/2*x+1=6", 0, 1);
        explain("2*x+1=x", "3*x+1=0", 0, 1);
        explain("4=x+1", "x+4=1", 0, 1);
        explain("4=x+1", "0=x+5", 0, 2);
        explain("2*x+4=6", "2*x=10", 0, 2);
        explain("2*x+4=6+x", "2*x=10+x", 0, 2);
        explain("2*x-4=1/2+x", "2*x=x-7/2", 0, 2);
        explain("2*x+4=6", "x+2=6", 0, 3);
        explain("2*x+4=7+3*x", "x+2=7+3*x", 0, 3);
        explain("2/3*x+4=6+3*x", "x+6=6+3*x", 0, 3);
        explain("2*x+4=6", "x+4=3", 0, 4);
        explain("2*x+4=6+3*x", "x+4=3+3/2*x", 0, 4);
        explain("-2*x<8", "2*x<-8", 0, 5);
        explain("3*x-1>x+5", "-3*x+1>-x-5", 0, 5);
        explain("2*x=6", "x=4", 0, 6);
        explain("-2*x>6", "x>8", 0, 6);
        explain("1/2*x<6", "x<11/2", 0, 6);
    }

    private static void conditions() {
        // Without a c, a b or a factor the slip's line is a step that keeps the solutions, or another one.
        explain("2*x=6", "2*x=6", 1, 0);
        explain("x+4=6", "x+4=6", 1, 0);
        explain("0=6", "x=6", 2, 0);
        explain("x=6", "x=5", 0, 0);
        explain("x=6+x", "x=5", 2, 0);
        explain("2*x+1=6", "x=4", 0, 0);
        explain("2*x=6+x", "x=4", 0, 0);
        explain("-2*x=8", "2*x=-8", 1, 0);
        explain("3*x=x+4", "x=4/3+x/3", 1, 0);
        explain("3*x=6", "x=100", 0, 0);
        explain("x+2=6+x", "x+2=6", 2, 0);
        explain("x-3=6", "x=3", 0, 2);
    }

    private static void theLowestIsTold() {
        // The lines of slips 3 and 5, and those of 5 and 6, may be the same one.
        explain("-x+2<0", "x-2<0", 0, 3);
        explain("-x>0", "x>0", 0, 3);
        explain("-x<-1/2", "x<1/2", 0, 5);
        // Those of a line that has them apart.
        explain("-x+2<-5", "x-2<-5", 0, 3);
        explain("-x+2<-5", "x+2<5", 0, 4);
        explain("-x+2<-5", "x-2<5", 0, 5);
        explain("-x>4", "x>4", 0, 3);
        explain("-x>4", "x>-4", 0, 5);
        explain("-x>4", "x>5", 0, 6);
    }

    private static void theRelationCounts() {
        explain("2*x<6", "x<4", 2, 6);
        explain("2*x<6", "x>4", 0, 0);
        explain("2*x<6", "x=4", 0, 0);
        explain("-2*x<8", "2*x>-8", 1, 0);
        explain("2*x+4>6", "2*x>10", 0, 2);
        explain("2*x-4>6", "2*x>2", 2, 2);
        explain("2*x-4>6", "2*x<2", 0, 0);
    }

    private static void largeParts() {
        explain("9999*x=6-x", "9998*x=6", 0, 1);
        explain("9999*x=6+x", "x=6", 0, 0);
        explain("x+5000=5000", "x=9999", 0, 0);
        explain("x+4999=5000", "x=9999", 0, 2);
        explain("1/9999*x+2=1", "x+2=9999", 0, 4);
        explain("1/9999*x=-1", "x=0", 0, 0);
    }

    private static void howLongItIsKept() {
        Desk desk = Desk.with("2*x+4=6");
        Check.same("at first", desk.tutor.slip(), 0);
        desk.step("2*x=10");
        Check.same("undo that does nothing", desk.tutor.undo(), false);
        Check.same("after undo that did nothing", desk.tutor.slip(), 2);
        Check.same("step with a fault", desk.step("2*x="), -5);
        Check.same("after a step with a fault", desk.tutor.slip(), 2);
        Check.same("begin with a fault", desk.begin("2*x="), -5);
        Check.same("after begin with a fault", desk.tutor.slip(), 2);
        desk.tutor.hint();
        desk.tutor.print();
        desk.tutor.witness(0);
        desk.tutor.solutions(0);
        Check.same("after calls that tell", desk.tutor.slip(), 2);
        desk.step("x=77");
        Check.same("after a step without a slip", desk.tutor.slip(), 0);
        desk.step("x+2=6");
        Check.same("after the next step", desk.tutor.slip(), 3);
        desk.step("2*x=2");
        Check.same("after an accepted step", desk.tutor.slip(), 0);
        desk.step("x=0");
        Check.same("after another step", desk.tutor.slip(), 6);
        Check.same("take", desk.tutor.take(), true);
        Check.same("after take", desk.tutor.slip(), 0);
        desk.step("x=5");
        Check.same("take that does nothing", desk.tutor.take(), false);
        Check.same("witness after it", desk.witness(), "1/1");
        desk.tutor.undo();
        desk.step("x=0");
        Check.same("before undo", desk.tutor.slip(), 6);
        Check.same("undo", desk.tutor.undo(), true);
        Check.same("after undo", desk.tutor.slip(), 0);
        desk.step("2*x=10");
        Check.same("before begin", desk.tutor.slip(), 2);
        desk.begin("2*x+4=6");
        Check.same("after begin", desk.tutor.slip(), 0);
    }
}
