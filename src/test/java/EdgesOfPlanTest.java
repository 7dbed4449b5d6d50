/** The edges that the document names for promises 7, 8 and 9: hint, take and undo. */
public final class EdgesOfPlanTest {
    private static final String NOT_THERE =
            "A line of the plan whose fractions have a part above 9999 isn't there: the hint is -1 then.";

    public static void main(String[] args) {
        firstIfCIsNot0();
        secondIfBIsNot0();
        thirdIfAIsNeither0Nor1();
        solved();
        largeFirst();
        largeSecond();
        largeThird();
        hintWithoutATask();
        takeFollowsTheHint();
        takeWithoutALine();
        takeGivesNoPoints();
        takeAtFortyLines();
        takeWithoutATask();
        undoOfTheFirst();
        undoFromFortyLines();
        undoWithoutATask();
        Check.finish();
    }

    private static void hint(String present, int due) {
        Check.same("hint for \"" + present + "\"", Desk.with(present).tutor.hint(), due);
    }

    private static void firstIfCIsNot0() {
        Check.sentence(7, "1 if c isn't 0");
        hint("0=x", 1);
        hint("x=x", 1);
        hint("x+1=x/9999", 1);
        hint("x<-x", 1);
        hint("2*x+1=x-x+3", 2);
        hint("2*x=0*x+3", 3);
    }

    private static void secondIfBIsNot0() {
        Check.sentence(7, "2 otherwise, if b isn't 0");
        hint("x+1=0", 2);
        hint("x-1/9999=0", 2);
        hint("1=1", 2);
        hint("2*x+1=1", 2);
        hint("2*x+1-1=1", 3);
    }

    private static void thirdIfAIsNeither0Nor1() {
        Check.sentence(7, "3 otherwise, if a is neither 0 nor 1");
        hint("2*x=0", 3);
        hint("-x=0", 3);
        hint("x/2=0", 3);
        hint("9998/9999*x=1", 3);
        hint("x=1", 0);
        hint("0*x=1", 0);
        hint("2*x/2=1", 0);
    }

    private static void solved() {
        Check.sentence(7, "0 if it is solved");
        for (String line : new String[] {"x=0", "x<9999", "x>-1/9999", "0=0", "0=1", "0<0", "0>-9999", "x-x=7"}) {
            hint(line, 0);
        }
    }

    private static void largeFirst() {
        Check.sentence(7, NOT_THERE);
        hint("9998*x=1-x", 1);
        hint("9999*x=1-x", -1);
        hint("-9998*x=1+x", 1);
        hint("-9999*x=1+x", -1);
        hint("x/99=x/101", 1);
        hint("x/100=x/101", -1);
        hint("x/5000<x/2", 1);
        hint("x/9999>x/2", -1);
    }

    private static void largeSecond() {
        Check.sentence(7, NOT_THERE);
        hint("x+1=-9998", 2);
        hint("x+1=-9999", -1);
        hint("x-1=9998", 2);
        hint("x-1=9999", -1);
        hint("x+1/99=1/101", 2);
        hint("x+1/100=1/101", -1);
        hint("1<-9999", -1);
        // What comes later in the plan is no matter.
        hint("9999*x+1=x+1", 1);
    }

    private static void largeThird() {
        Check.sentence(7, NOT_THERE);
        hint("x/3=3333", 3);
        hint("x/2=5000", -1);
        hint("-x/3=3333", 3);
        hint("-x/2=5000", -1);
        hint("3*x=1/3333", 3);
        hint("2*x=1/5000", -1);
        hint("9999*x=0", 3);
        hint("9999*x<9999", 3);
    }

    private static void hintWithoutATask() {
        Check.sentence(7, "IllegalStateException: there is no task (also below).");
        Desk desk = new Desk();
        Check.refusesState("hint", desk.tutor::hint);
        desk.begin("x");
        Check.refusesState("hint after begin with a fault", desk.tutor::hint);
    }

    private static void take(String present, String due) {
        Desk desk = Desk.with(present);
        Check.same("take at \"" + present + "\"", desk.tutor.take(), true);
        Check.same("line taken at \"" + present + "\"", desk.parts(), due);
        Check.same("lines", desk.tutor.count(0), 2);
    }

    private static void takeFollowsTheHint() {
        Check.sentence(8, "The line that the plan says becomes the present one");
        take("9998*x+1=2-x", "9999/1 1/1 0/1 2/1 =");
        take("x<x", "0/1 0/1 0/1 0/1 <");
        take("x+1>x", "0/1 1/1 0/1 0/1 >");
        take("x-1=9998", "1/1 0/1 0/1 9999/1 =");
        take("1=1", "0/1 0/1 0/1 0/1 =");
        take("x/3=3333", "1/1 0/1 0/1 9999/1 =");
        take("2*x=0", "1/1 0/1 0/1 0/1 =");
        Check.sentence(8, "R turned if a is below 0");
        take("-x<0", "1/1 0/1 0/1 0/1 >");
        take("-x>1", "1/1 0/1 0/1 -1/1 <");
        take("-1/9999*x<1", "1/1 0/1 0/1 -9999/1 >");
        take("-x=1", "1/1 0/1 0/1 -1/1 =");
        take("1/9999*x<1", "1/1 0/1 0/1 9999/1 <");
        take("1/9999*x>1", "1/1 0/1 0/1 9999/1 >");
        // Steps 1 and 2 of the plan never turn it.
        take("x<2*x+1", "-1/1 0/1 0/1 1/1 <");
        take("-x+1>0", "-1/1 0/1 0/1 -1/1 >");
    }

    private static void takeWithoutALine() {
        Check.sentence(8, "false if there is none");
        for (String line : new String[] {"x=1", "0=0", "0<-1", "9999*x=1-x", "x+1=-9999", "x/2=5000"}) {
            Desk desk = Desk.with(line);
            String before = desk.state();
            Check.same("take at \"" + line + "\"", desk.tutor.take(), false);
            Check.same("state after it", desk.state(), before);
        }
    }

    private static void takeGivesNoPoints() {
        Check.sentence(8, "(no points are given)");
        Desk desk = Desk.with("2*x+4=6-x");
        for (int n = 1; n <= 3; n++) {
            Check.same("take " + n, desk.tutor.take(), true);
        }
        Check.same("take of a solved line", desk.tutor.take(), false);
        Check.same("points", desk.points(), "0 0 0");
        Check.same("counts", desk.counts(), "4 0 0 0");
    }

    private static void takeAtFortyLines() {
        Check.sentence(8, "IllegalStateException: also if the task has 40 lines.");
        Desk desk = Desk.with("2*x=6");
        desk.fill("2*x=6", 39);
        Check.same("take at 39 lines", desk.tutor.take(), true);
        Check.same("lines", desk.tutor.count(0), 40);
        String before = desk.state();
        Check.refusesState("take at 40 lines, the last one solved", desk.tutor::take);
        Check.same("state after it", desk.state(), before);
        desk.tutor.undo();
        desk.fill("2*x=6", 40);
        Check.refusesState("take at 40 lines, the last one not solved", desk.tutor::take);
        Check.same("hint at 40 lines", desk.tutor.hint(), 3);
        desk.tutor.undo();
        Check.same("take at 39 lines again", desk.tutor.take(), true);
        desk.begin("2*x=8");
        Check.same("take of a new task", desk.tutor.take(), true);
    }

    private static void takeWithoutATask() {
        Check.sentence(8, "IllegalStateException: there is no task (also below).");
        Desk desk = new Desk();
        Check.refusesState("take", desk.tutor::take);
        Check.same("state after it", desk.state(), new Desk().state());
    }

    private static void undoOfTheFirst() {
        Check.sentence(9, "false if it is the first");
        Desk desk = Desk.with("2*x=6");
        String before = desk.state();
        Check.same("undo", desk.tutor.undo(), false);
        Check.same("undo again", desk.tutor.undo(), false);
        Check.same("state after it", desk.state(), before);
        desk.step("x=3");
        desk.begin("x=5");
        Check.same("undo of the first line of a new task", desk.tutor.undo(), false);
        Check.same("its line", desk.parts(), "1/1 0/1 0/1 5/1 =");
    }

    private static void undoFromFortyLines() {
        Check.sentence(9, "The present line goes, the one ahead is present");
        Desk desk = Desk.with("x=1");
        for (int n = 2; n <= 40; n++) {
            desk.step(n + "*x=" + n);
        }
        for (int n = 39; n >= 1; n--) {
            Check.same("undo to line " + n, desk.tutor.undo(), true);
            Check.same("lines", desk.tutor.count(0), n);
            Check.same("present line", desk.tutor.line(0), n);
        }
        Check.same("undo of the first", desk.tutor.undo(), false);
        Check.same("lines", desk.tutor.count(0), 1);
        Check.same("step from the first", desk.step("50*x=50"), 1);
        Check.same("undo", desk.tutor.undo(), true);
        Check.same("the first again", desk.tutor.line(0), 1);
    }

    private static void undoWithoutATask() {
        Check.sentence(9, "IllegalStateException: there is no task (also below).");
        Desk desk = new Desk();
        Check.refusesState("undo", desk.tutor::undo);
        desk.begin("=");
        Check.refusesState("undo after begin with a fault", desk.tutor::undo);
    }
}
