/** Promise 7: hint. */
public final class HintTest {
    public static void main(String[] args) {
        everyStepOfThePlan();
        largeParts();
        itChangesNothing();
        Check.refusesState("hint without a task", () -> new TutorLines().hint());
        Check.finish();
    }

    private static void say(String present, int due) {
        Check.same("hint for \"" + present + "\"", Desk.with(present).tutor.hint(), due);
    }

    private static void everyStepOfThePlan() {
        say("3*x-5=x/2+1", 1);
        say("0=x", 1);
        say("x=x", 1);
        say("1=-x", 1);
        say("3*x-5=1", 2);
        say("x-5=1", 2);
        say("5=1", 2);
        say("3*x=1", 3);
        say("-x=1", 3);
        say("x/2<0", 3);
        say("x=1", 0);
        say("x>0", 0);
        say("0=1", 0);
        say("0=0", 0);
    }

    private static void largeParts() {
        say("9999*x=1-x", -1);
        say("9998*x=1-x", 1);
        say("9999*x=1+x", 1);
        say("x+1=-9999", -1);
        say("x+1=-9998", 2);
        say("1/100=1/101", -1);
        say("x*3=1/9999", -1);
        say("x*3=3/9998", 3);
        say("x/2=5000", -1);
        say("x/2=4999", 3);
        say("-x/2=5000", -1);
    }

    private static void itChangesNothing() {
        Desk desk = Desk.with("2*x=6");
        desk.step("x=4");
        desk.tutor.hint();
        Check.same("parts", desk.parts(), "2/1 0/1 0/1 6/1 =");
        Check.same("slip", desk.tutor.slip(), 6);
        Check.same("witness", desk.witness(), "3/1");
        Check.same("counts", desk.counts(), "1 0 1 0");
        Check.same("step", desk.step("x=3"), 1);
        Check.same("hint for the present line", desk.tutor.hint(), 0);
        desk.tutor.undo();
        Check.same("hint after undo", desk.tutor.hint(), 3);
    }
}
