/** What README.md says of how to use the class: its example, its tables of the plan and of the slips. */
public final class ReadmeTest {
    public static void main(String[] args) {
        example();
        written();
        plan();
        slips();
        callsThatThrowChangeNothing();
        Check.finish();
    }

    private static void example() {
        TutorLines tutor = new TutorLines();
        tutor.put(0, '2' | '*' << 8 | 'x' << 16 | '=' << 24);
        tutor.put(4, '6');
        Check.same("promise 3: begin(5)", tutor.begin(5), 0);
        tutor.put(0, 'x' | '=' << 8 | '4' << 16);
        Check.same("promise 4: step(3)", tutor.step(3), 0);
        Check.same("promise 5: slip()", tutor.slip(), 6);
        Check.same("promise 6: witness(0)", tutor.witness(0), 3);
        Check.same("promise 6: witness(1)", tutor.witness(1), 1);
        Check.same("promise 7: hint()", tutor.hint(), 3);
        Check.same("promise 8: take()", tutor.take(), true);
        Check.same("promise 12: print()", tutor.print(), 5);
        Check.same("promise 13: printed(0)", tutor.printed(0), 'x');
    }

    private static void written() {
        Check.same("promise 3: 3*x - 5 = x/2 + 1", new Desk().begin("3*x - 5 = x/2 + 1"), 0);
        Check.same("promise 3: -2*x < 8", new Desk().begin("-2*x < 8"), 0);
        Check.same("promise 3: 2x is not read", new Desk().begin("2x=1"), -2);
        Check.same("promise 12: what is printed leaves the * out", Desk.with("2*x=1").print(), "2x = 1");
    }

    private static void plan() {
        planned("5*x+7<3*x+1", 1, "2x + 7 < 1");
        planned("5*x+7<1", 2, "5x < -6");
        planned("-5*x<1", 3, "x > -1/5");
    }

    private static void planned(String line, int hint, String due) {
        Desk desk = Desk.with(line);
        Check.same("promise 7: hint of " + line, desk.tutor.hint(), hint);
        Check.same("promise 8: take from " + line, desk.tutor.take(), true);
        Check.same("promise 8: line behind " + line, desk.print(), due);
    }

    private static void slips() {
        slip("5*x+7<3*x+1", "8*x+7<1", 1);
        slip("5*x+7<3*x+1", "5*x<3*x+8", 2);
        slip("5*x+7<3*x+1", "x+7/5<3*x+1", 3);
        slip("5*x+7<3*x+1", "x+7<3/5*x+1/5", 4);
        slip("5*x+7<3*x+1", "-5*x-7<-3*x-1", 5);
        slip("5*x<1", "x<-4", 6);
    }

    private static void slip(String line, String step, int due) {
        Desk desk = Desk.with(line);
        Check.same("promise 4: " + step + " is refused", desk.step(step) == 1, false);
        Check.same("promise 5: slip from " + line + " to " + step, desk.tutor.slip(), due);
    }

    private static void callsThatThrowChangeNothing() {
        Desk desk = Desk.with("5*x+7<3*x+1");
        desk.fill("5*x+7<3*x+1", 39);
        desk.step("5*x<3*x+8");
        desk.tutor.undo();
        desk.fill("5*x+7<3*x+1", 40);
        String before = desk.state();
        Check.refusesState("promise 4: step at 40 lines", () -> desk.tutor.step(11));
        Check.refusesState("promise 8: take at 40 lines", desk.tutor::take);
        Check.refusesState("promise 6: witness without a refused step", () -> desk.tutor.witness(0));
        Check.refusesArgument("promise 2: put", () -> desk.tutor.put(80, 0));
        Check.refusesArgument("promise 3: begin", () -> desk.tutor.begin(81));
        Check.refusesArgument("promise 4: step", () -> desk.tutor.step(81));
        Check.refusesArgument("promise 6: witness", () -> desk.tutor.witness(2));
        Check.refusesArgument("promise 10: line", () -> desk.tutor.line(9));
        Check.refusesArgument("promise 11: solutions", () -> desk.tutor.solutions(3));
        Check.refusesArgument("promise 14: points", () -> desk.tutor.points(4));
        Check.same("promise 4: state after all of them", desk.state(), before);
    }
}
