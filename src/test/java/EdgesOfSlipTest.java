/** The edges that the document names for promise 5, and for each of the slips. */
public final class EdgesOfSlipTest {
    public static void main(String[] args) {
        firstSlip();
        secondSlip();
        thirdSlip();
        fourthSlip();
        fifthSlip();
        sixthSlip();
        theLinesOwnRelation();
        partsAbove9999();
        theLowest();
        answeredBy0Or2();
        withoutAny();
        noStep();
        whatTakesItAway();
        whatDoesNothing();
        Check.finish();
    }

    private static void explain(String present, String step, int answer, int due) {
        Desk desk = Desk.with(present);
        String what = "from \"" + present + "\" to \"" + step + "\"";
        Check.same(what, desk.step(step), answer);
        Check.same("slip " + what, desk.tutor.slip(), due);
    }

    private static void firstSlip() {
        Check.sentence(5, "1: (a + c) x + b R d, c not 0.");
        explain("x=2*x+1", "3*x=1", 0, 1);
        explain("0=x", "x=0", 1, 0);
        explain("0=2*x+3", "2*x=3", 0, 1);
        explain("x=-x+1", "0=1", 0, 1);
        explain("x<-x-1", "0<-1", 0, 1);
        explain("-x>x-1", "0>-1", 2, 1);
        explain("x+2=6", "x+2=6", 1, 0);
    }

    private static void secondSlip() {
        Check.sentence(5, "2: a x R c x + (b + d), b not 0.");
        explain("x+1=0", "x=1", 0, 2);
        explain("x-1/9999=0", "x=-1/9999", 0, 2);
        explain("1=2", "0=3", 1, 0);
        explain("1=1", "0=2", 0, 2);
        explain("1=-1", "0=0", 2, 2);
        explain("x+1=x-1", "x=x", 2, 2);
        explain("x=6", "x=6", 1, 0);
    }

    private static void thirdSlip() {
        Check.sentence(5, "3: x + b / a R c x + d, a neither 0 nor 1.");
        explain("2*x=6", "x=6", 0, 3);
        explain("-x=6", "x=6", 0, 3);
        explain("x/2+1=6", "x+2=6", 0, 3);
        explain("0=6", "x=6", 2, 0);
        explain("3=6", "x=6", 2, 0);
        explain("3=6", "x+3=6", 2, 0);
        explain("x+3=6", "x+3=6", 1, 0);
        explain("2*x+4=2*x+5", "x+2=2*x+5", 2, 3);
    }

    private static void fourthSlip() {
        Check.sentence(5, "4: x + b R c / a x + d / a, a neither 0 nor 1, b not 0.");
        explain("2*x+1=6", "x+1=3", 0, 4);
        explain("-x+1=6", "x+1=-6", 0, 4);
        // With a b that is 0 it would be the plan's line, but for an R that wasn't turned.
        explain("-2*x<8", "x<-4", 0, 0);
        explain("-2*x>8+4*x", "x>-4-2*x", 0, 0);
        explain("-2*x+1<8", "x+1<-4", 0, 4);
        explain("1=6", "x+1=0", 2, 0);
        explain("1=6", "x+1=6", 2, 0);
        explain("1=x+6", "x+1=x+6", 0, 0);
    }

    private static void fifthSlip() {
        Check.sentence(5, "5: -a x - b R -c x - d, where R is < or >.");
        explain("2*x+3<4*x+5", "-2*x-3<-4*x-5", 0, 5);
        explain("2*x+3>4*x+5", "-2*x-3>-4*x-5", 0, 5);
        explain("x<0", "-x<0", 0, 5);
        explain("0<1", "0<-1", 0, 5);
        explain("0>1", "0>-1", 2, 5);
        explain("0<0", "0<0", 1, 0);
        explain("2*x+3=4*x+5", "-2*x-3=-4*x-5", 1, 0);
    }

    private static void sixthSlip() {
        Check.sentence(5, "6: x R d - a, b and c being 0, a neither 0 nor 1.");
        explain("2*x=6", "x=4", 0, 6);
        explain("-x=6", "x=7", 0, 6);
        explain("1/2*x=0", "x=-1/2", 0, 6);
        explain("2*x+1=6", "x=4", 0, 0);
        explain("2*x=x+6", "x=4", 0, 0);
        explain("x=6", "x=5", 0, 0);
        explain("0=6", "x=6", 2, 0);
    }

    private static void theLinesOwnRelation() {
        Check.sentence(5, "(R is the line's own.)");
        explain("2*x<x+1", "3*x<1", 0, 1);
        explain("2*x<x+1", "3*x>1", 0, 0);
        explain("2*x<x+1", "3*x=1", 0, 0);
        explain("x+1<2", "x<3", 2, 2);
        explain("x+1<2", "x>3", 0, 0);
        explain("2*x+2<6", "x+1>6", 0, 0);
        explain("2*x+1<6", "x+1>3", 0, 0);
        explain("-2*x<6", "2*x>-6", 1, 0);
        explain("2*x>6", "x<4", 0, 0);
        explain("2*x=6", "x<4", 2, 0);
    }

    private static void partsAbove9999() {
        Check.sentence(5, "(A slip whose fractions have a part above 9999 is none.)");
        explain("9998*x=x+1", "9999*x=1", 0, 1);
        explain("9999*x=x+1", "9999*x=1", 0, 0);
        explain("x+9998=1", "x=9999", 0, 2);
        explain("x+9999=1", "x=9999", 0, 0);
        explain("x/9999+1=0", "x+9999=0", 1, 0);
        explain("x/5000+2=0", "x+9999=0", 0, 0);
        explain("x/5000+1=1", "x+5000=1", 0, 3);
        explain("x/9999+1=1", "x+1=9999", 0, 4);
        explain("x/5000+1=2", "x+1=9999", 0, 0);
        explain("9999*x<9999", "-9999*x<-9999", 0, 5);
        explain("-x=9998", "x=9999", 0, 6);
        explain("-x=9999", "x=9998", 0, 0);
        // Slip 1 is too large here, a later one may still be the one.
        explain("9999*x+1=x+2", "9999*x=x+3", 0, 2);
    }

    private static void theLowest() {
        Check.sentence(5, "The lowest slip that explains the latest step");
        explain("-x+2<0", "x-2<0", 0, 3);
        explain("-x>0", "x>0", 0, 3);
        explain("-2*x-4>0", "x-4>0", 0, 4);
        explain("-x<-1/2", "x<1/2", 0, 5);
        explain("-x+1>0", "-x>1", 0, 2);
    }

    private static void answeredBy0Or2() {
        Check.sentence(5, "explains the latest step, if that was answered by 0 or 2");
        explain("2*x<6", "x<4", 2, 6);
        explain("2*x<6", "x<6", 2, 3);
        explain("2*x>6", "x>4", 0, 6);
        // Slip 6 leads to the right line here.
        explain("2*x=4", "x=2", 1, 0);
    }

    private static void withoutAny() {
        Check.sentence(5, "0 without any");
        Desk desk = new Desk();
        Check.same("without a task", desk.tutor.slip(), 0);
        desk.begin("2*x=6");
        Check.same("without a step", desk.tutor.slip(), 0);
        desk.step("x=77");
        Check.same("without a slip", desk.tutor.slip(), 0);
        desk.step("x=4");
        Check.same("with one", desk.tutor.slip(), 6);
        desk.step("x=77");
        Check.same("without a slip again", desk.tutor.slip(), 0);
        desk.step("x=4");
        desk.step("2*x=6");
        Check.same("after an accepted step", desk.tutor.slip(), 0);
    }

    private static void noStep() {
        Check.sentence(5, "(A text with a fault is no step");
        Desk desk = Desk.with("2*x=6");
        desk.step("x=4");
        desk.step("x=");
        Check.same("after a step with a fault", desk.tutor.slip(), 6);
        Check.same("witness after it", desk.witness(), "3/1");
        desk.step("x=3");
        desk.step("x=");
        Check.same("after an accepted step and a fault", desk.tutor.slip(), 0);
        Check.refusesState("witness after both", () -> desk.tutor.witness(0));
    }

    private static void whatTakesItAway() {
        Check.sentence(5, "begin(), take() and undo() that do something take it away");
        Desk desk = Desk.with("2*x=6");
        desk.step("2*x=6");
        desk.step("x=4");
        Check.same("begin", desk.begin("2*x=6"), 0);
        Check.same("after begin", desk.tutor.slip(), 0);
        Check.refusesState("witness after begin", () -> desk.tutor.witness(0));
        desk.step("x=4");
        Check.same("take", desk.tutor.take(), true);
        Check.same("after take", desk.tutor.slip(), 0);
        Check.refusesState("witness after take", () -> desk.tutor.witness(0));
        desk.tutor.undo();
        desk.step("2*x=6");
        desk.step("x=4");
        Check.same("undo", desk.tutor.undo(), true);
        Check.same("after undo", desk.tutor.slip(), 0);
        Check.refusesState("witness after undo", () -> desk.tutor.witness(0));
    }

    private static void whatDoesNothing() {
        Check.sentence(5, "begin(), take() and undo() that do something take it away");
        Desk desk = Desk.with("2*x=6");
        desk.step("x=4");
        Check.same("undo of the first", desk.tutor.undo(), false);
        Check.same("after undo", desk.tutor.slip(), 6);
        Check.same("begin with a fault", desk.begin("x"), -2);
        Check.same("after begin", desk.tutor.slip(), 6);
        Check.refusesArgument("begin of no such length", () -> desk.tutor.begin(81));
        Check.same("after begin that was refused", desk.tutor.slip(), 6);
        Desk solved = Desk.with("x<6");
        solved.step("-x<-6");
        Check.same("take at a solved line", solved.tutor.take(), false);
        Check.same("after take", solved.tutor.slip(), 5);
        Desk large = Desk.with("x/2=5000");
        large.step("x=5000");
        Check.same("take of what isn't there", large.tutor.take(), false);
        Check.same("after take of what isn't there", large.tutor.slip(), 3);
        Check.same("witness after it", large.witness(), "10000/1");
    }
}
