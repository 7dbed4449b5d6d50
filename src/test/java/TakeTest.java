/** Promise 8: take. */
public final class TakeTest {
    public static void main(String[] args) {
        allTheWay();
        relations();
        thereIsNone();
        itIsNoStep();
        fortyLines();
        Check.refusesState("take without a task", () -> new TutorLines().take());
        Check.finish();
    }

    private static void allTheWay() {
        Desk desk = Desk.with("3*x-5=x/2+1");
        Check.same("take 1", desk.tutor.take(), true);
        Check.same("line 1", desk.parts(), "5/2 -5/1 0/1 1/1 =");
        Check.same("take 2", desk.tutor.take(), true);
        Check.same("line 2", desk.parts(), "5/2 0/1 0/1 6/1 =");
        Check.same("take 3", desk.tutor.take(), true);
        Check.same("line 3", desk.parts(), "1/1 0/1 0/1 12/5 =");
        Check.same("take of a solved one", desk.tutor.take(), false);
        Check.same("line 3 stays", desk.parts(), "1/1 0/1 0/1 12/5 =");
        Check.same("lines", desk.tutor.count(0), 4);
    }

    private static void take(String present, String due) {
        Desk desk = Desk.with(present);
        Check.same("take at \"" + present + "\"", desk.tutor.take(), true);
        Check.same("line taken at \"" + present + "\"", desk.parts(), due);
    }

    private static void relations() {
        take("-2*x<8", "1/1 0/1 0/1 -4/1 >");
        take("-2*x>8", "1/1 0/1 0/1 -4/1 <");
        take("-2*x=8", "1/1 0/1 0/1 -4/1 =");
        take("2*x<8", "1/1 0/1 0/1 4/1 <");
        take("2*x>8", "1/1 0/1 0/1 4/1 >");
        take("-x>0", "1/1 0/1 0/1 0/1 <");
        take("x-2*x<8-3*x", "2/1 0/1 0/1 8/1 <");
        take("2>x", "-1/1 2/1 0/1 0/1 >");
        take("x-1<x", "0/1 -1/1 0/1 0/1 <");
        take("-x+1<0", "-1/1 0/1 0/1 -1/1 <");
        take("5=1/3", "0/1 0/1 0/1 -14/3 =");
    }

    private static void thereIsNone() {
        for (String line : new String[] {"x=1", "0=1", "9999*x=1-x", "x+1=-9999", "x/2=5000"}) {
            Desk desk = Desk.with(line);
            String before = desk.parts();
            Check.same("take at \"" + line + "\"", desk.tutor.take(), false);
            Check.same("line \"" + line + "\"", desk.parts(), before);
            Check.same("counts", desk.counts(), "1 0 0 0");
        }
    }

    private static void itIsNoStep() {
        Desk desk = Desk.with("2*x+4=6+x");
        desk.tutor.take();
        desk.tutor.take();
        Check.same("points", desk.points(), "0 0 0");
        Check.same("counts", desk.counts(), "3 0 0 0");
    }

    private static void fortyLines() {
        Desk desk = Desk.with("2*x=6");
        for (int n = 2; n <= 39; n++) {
            desk.step("2*x=6");
        }
        Check.same("take to line 40", desk.tutor.take(), true);
        Check.same("lines", desk.tutor.count(0), 40);
        Check.refusesState("take of a solved one at 40 lines", desk.tutor::take);
        desk.tutor.undo();
        desk.step("2*x=6");
        Check.refusesState("take at 40 lines", desk.tutor::take);
        Check.same("present line", desk.parts(), "2/1 0/1 0/1 6/1 =");
        Check.same("hint at 40 lines", desk.tutor.hint(), 3);
    }
}
