/** Promise 1: a new object has no task. */
public final class NewObjectTest {
    public static void main(String[] args) {
        TutorLines tutor = new TutorLines();
        Check.refusesState("step", () -> tutor.step(0));
        Check.refusesState("witness", () -> tutor.witness(0));
        Check.refusesState("hint", tutor::hint);
        Check.refusesState("take", tutor::take);
        Check.refusesState("undo", tutor::undo);
        Check.refusesState("line", () -> tutor.line(0));
        Check.refusesState("solutions", () -> tutor.solutions(0));
        Check.refusesState("print", tutor::print);
        Check.same("slip", tutor.slip(), 0);
        Check.same("printed", tutor.printed(0), -1);
        for (int skill = 1; skill <= 3; skill++) {
            Check.same("points " + skill, tutor.points(skill), 0);
        }
        for (int what = 0; what <= 3; what++) {
            Check.same("count " + what, tutor.count(what), 0);
        }
        objectsAreApart();
        Check.finish();
    }

    private static void objectsAreApart() {
        Desk one = Desk.with("x=1");
        one.step("x=1");
        one.print();
        Desk other = new Desk();
        Check.refusesState("hint of another", other.tutor::hint);
        Check.same("count of another", other.counts(), "0 0 0 0");
        Check.same("printed of another", other.tutor.printed(0), -1);
    }
}
