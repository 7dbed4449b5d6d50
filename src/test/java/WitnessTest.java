/** Promise 6: witness. */
public final class WitnessTest {
    public static void main(String[] args) {
        order();
        fractions();
        largeParts();
        whenItIsThere();
        wrongCalls();
        Check.finish();
    }

    private static void tell(String present, String step, String due) {
        Desk desk = Desk.with(present);
        String what = "from \"" + present + "\" to \"" + step + "\"";
        Check.same("refused " + what, desk.step(step) != 1, true);
        Check.same("witness " + what, desk.witness(), due);
    }

    private static void order() {
        // The present line's own, then the other's.
        tell("x=3", "x=5", "3/1");
        tell("x<3", "x<5", "3/1");
        tell("x<5", "x<3", "3/1");
        tell("x>3", "x>5", "5/1");
        tell("x>5", "x>3", "5/1");
        tell("x=3", "1=2", "3/1");
        tell("1=2", "x=3", "3/1");
        tell("x<3", "0=0", "3/1");
        tell("0=0", "x<3", "3/1");
        tell("x<3", "x=3", "3/1");
        tell("x<3", "x>1", "3/1");
        // One taken off, of both.
        tell("x<3", "x>3", "2/1");
        tell("x<3", "1=2", "2/1");
        tell("1=2", "x<3", "2/1");
        tell("x=3", "0=0", "2/1");
        tell("0=0", "x=3", "2/1");
        tell("x<3", "x>7", "2/1");
        tell("x<3", "x=2", "1/1");
        tell("x=2", "x<3", "1/1");
        tell("x>7", "x<3", "2/1");
        // One put on, of both.
        tell("x>3", "1=2", "4/1");
        tell("1=2", "x>3", "4/1");
        tell("x>3", "x=4", "5/1");
        tell("x=4", "x>3", "5/1");
        // 0 if there is neither bound nor point.
        tell("1=2", "0=0", "0/1");
        tell("x=x", "x=x+1", "0/1");
    }

    private static void fractions() {
        tell("x<-1/2", "x>-1/2", "-3/2");
        tell("x<1/3", "1=2", "-2/3");
        tell("x>-1/3", "1=2", "2/3");
        tell("3*x=2", "x=5", "2/3");
        tell("-6*x=4", "x=5", "-2/3");
        tell("x>1/2", "x=3/2", "5/2");
        tell("x<3/4", "x<1/2", "1/2");
    }

    private static void largeParts() {
        tell("9973/9967*x+1/9949=9967/9973*x+1/9941", "x=0", "99400891/1479094499595");
        tell("9973/9967*x+1/9949<9967/9973*x+1/9941", "1=2", "-1478995098704/1479094499595");
        tell("9973/9967*x+1/9949>9967/9973*x+1/9941", "1=2", "1479193900486/1479094499595");
        String far = "9999/9998*x+9997/9996<9995/9994*x-9993/9992";
        tell(far, "9999/9998*x+9997/9996<9995/9994*x-9993/9991", "4990256573210165/99870036");
    }

    private static void whenItIsThere() {
        Desk desk = Desk.with("2*x+4=6");
        Check.refusesState("at first", () -> desk.tutor.witness(0));
        desk.step("x=0");
        Check.same("refused", desk.witness(), "1/1");
        desk.step("x=");
        desk.begin("x=");
        desk.tutor.undo();
        Check.same("after what isn't there", desk.witness(), "1/1");
        desk.step("x>0");
        Check.same("more", desk.witness(), "2/1");
        desk.step("2*x=2");
        Check.refusesState("accepted", () -> desk.tutor.witness(0));
        desk.step("x=3");
        Check.same("refused", desk.witness(), "1/1");
        desk.tutor.take();
        Check.refusesState("after take", () -> desk.tutor.witness(1));
        desk.step("x=3");
        Check.same("take that does nothing", desk.tutor.take(), false);
        Check.same("after it", desk.witness(), "1/1");
        desk.tutor.undo();
        Check.refusesState("after undo", () -> desk.tutor.witness(0));
        desk.step("x=3");
        desk.begin("x=7");
        Check.refusesState("after begin", () -> desk.tutor.witness(0));
        desk.step("x=3");
        Check.same("of another task", desk.witness(), "7/1");
        desk.begin("1=2");
        desk.step("2=2");
        Check.same("0, behind another one", desk.witness(), "0/1");
    }

    private static void wrongCalls() {
        Desk desk = Desk.with("x=1");
        TutorLines none = new TutorLines();
        for (int part : new int[] {-1, 2, Integer.MIN_VALUE, Integer.MAX_VALUE}) {
            Check.refusesArgument("witness " + part, () -> desk.tutor.witness(part));
            Check.refusesArgument("witness " + part + " without a task", () -> none.witness(part));
        }
        desk.step("x=2");
        Check.refusesArgument("witness 2 of a refused step", () -> desk.tutor.witness(2));
        Check.refusesState("witness without a task", () -> none.witness(1));
    }
}
