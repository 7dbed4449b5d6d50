/** Promise 11: solutions. */
public final class SolutionsTest {
    public static void main(String[] args) {
        noneAndAll();
        points();
        bounds();
        largeParts();
        wrongCalls();
        Check.finish();
    }

    private static void tell(String present, String due) {
        Check.same("solutions of \"" + present + "\"", Desk.with(present).solutions(), due);
    }

    private static void noneAndAll() {
        tell("x=x+1", "0 0/1");
        tell("x<x", "0 0/1");
        tell("x>x", "0 0/1");
        tell("x<x-1", "0 0/1");
        tell("x>x+1", "0 0/1");
        tell("2=3", "0 0/1");
        tell("x=x", "1 0/1");
        tell("x<x+1", "1 0/1");
        tell("x>x-1", "1 0/1");
        tell("7=7", "1 0/1");
        tell("2*x+1/2=x+1/2+x", "1 0/1");
    }

    private static void points() {
        tell("3*x-5=x/2+1", "2 12/5");
        tell("x=0", "2 0/1");
        tell("2*x=x", "2 0/1");
        tell("4=-6*x", "2 -2/3");
        tell("-x=-5", "2 5/1");
    }

    private static void bounds() {
        tell("x<3", "3 3/1");
        tell("x>3", "4 3/1");
        tell("3<x", "4 3/1");
        tell("3>x", "3 3/1");
        tell("-2*x<8", "4 -4/1");
        tell("-2*x>8", "3 -4/1");
        tell("x/2+1<x/3", "3 -6/1");
        tell("x/3+1<x/2", "4 6/1");
        tell("x<2*x", "4 0/1");
    }

    private static void largeParts() {
        tell("x/9999=9999", "2 99980001/1");
        tell("9999*x=1/9999", "2 1/99980001");
        tell("-9999*x=1/9999", "2 -1/99980001");
        tell("x/9999+9999=x/9998-9999", "2 1999200099996/1");
        tell("9973/9967*x+1/9949<9967/9973*x+1/9941", "3 99400891/1479094499595");
        tell("9999/9998*x+9997/9995<9992/9993*x-9989/9991", "3 -19954036188701148/1996302159595");
    }

    private static void wrongCalls() {
        Desk desk = Desk.with("x=1");
        TutorLines none = new TutorLines();
        for (int what : new int[] {-1, 3, Integer.MIN_VALUE, Integer.MAX_VALUE}) {
            Check.refusesArgument("solutions " + what, () -> desk.tutor.solutions(what));
            Check.refusesArgument("solutions " + what + " without a task", () -> none.solutions(what));
        }
        for (int what = 0; what <= 2; what++) {
            int asked = what;
            Check.refusesState("solutions " + what + " without a task", () -> none.solutions(asked));
        }
    }
}
