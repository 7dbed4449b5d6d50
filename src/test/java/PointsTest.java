/** Promise 14: points. */
public final class PointsTest {
    public static void main(String[] args) {
        everySkillGains();
        everySkillLoses();
        whatGivesNone();
        limits();
        wrongCalls();
        Check.finish();
    }

    private static void everySkillGains() {
        Desk desk = Desk.with("3*x-5<4*x+1");
        desk.step("-x-5<1");
        Check.same("after plan step 1", desk.points(), "1 0 0");
        desk.step("-x<6");
        Check.same("after plan step 2", desk.points(), "1 1 0");
        desk.step("x>-6");
        Check.same("after plan step 3", desk.points(), "1 1 1");
        desk.step("x>-6");
        Check.same("after a step from a solved line", desk.points(), "1 1 1");
        desk.tutor.undo();
        desk.tutor.undo();
        desk.step("x>-6");
        Check.same("after the same step again", desk.points(), "1 1 2");
    }

    /** A desk whose skills have two points each. */
    private static Desk rich() {
        Desk desk = new Desk();
        for (int n = 0; n < 2; n++) {
            desk.begin("2*x+4=6+x");
            desk.step("x+4=6");
            desk.step("x=2");
            desk.begin("2*x=6");
            desk.step("x=3");
        }
        Check.same("points", desk.points(), "2 2 2");
        return desk;
    }

    private static void lose(String present, String step, int slip, String due) {
        Desk desk = rich();
        desk.begin(present);
        desk.step(step);
        Check.same("slip from \"" + present + "\" to \"" + step + "\"", desk.tutor.slip(), slip);
        Check.same("points after slip " + slip, desk.points(), due);
    }

    private static void everySkillLoses() {
        lose("2*x=6+x", "3*x=6", 1, "1 2 2");
        lose("2*x+4=6", "2*x=10", 2, "2 1 2");
        lose("2*x+4=6", "x+2=6", 3, "2 2 1");
        lose("2*x+4=6", "x+4=3", 4, "2 2 1");
        lose("-2*x<8", "2*x<-8", 5, "2 2 1");
        lose("2*x=6", "x=4", 6, "2 2 1");
        lose("2*x-4>6", "2*x>2", 2, "2 1 2");
    }

    private static void whatGivesNone() {
        Desk desk = rich();
        desk.begin("2*x+4=6+x");
        desk.step("2*x=2+x");
        Check.same("after another accepted step", desk.points(), "2 2 2");
        desk.step("x=2");
        Check.same("after the plan's step 1", desk.points(), "3 2 2");
        desk.begin("2*x<8");
        desk.step("4>x");
        Check.same("after the plan's line the other way round", desk.points(), "3 2 2");
        desk.step("x<9");
        desk.step("x<1");
        desk.step("x<");
        Check.same("after steps that no slip explains", desk.points(), "3 2 2");
        desk.begin("2*x<8");
        desk.tutor.take();
        desk.tutor.undo();
        Check.same("after take and undo", desk.points(), "3 2 2");
        desk.begin("x+1=-9999");
        Check.same("step", desk.step("1+x=-9999"), 1);
        Check.same("without a line of the plan", desk.points(), "3 2 2");
    }

    private static void limits() {
        Desk desk = Desk.with("2*x=6");
        desk.step("x=4");
        Check.same("none is lost at 0", desk.points(), "0 0 0");
        for (int n = 1; n <= 12; n++) {
            desk.begin("2*x=6");
            desk.step("x=3");
            Check.same("points of 3", desk.tutor.points(3), Math.min(n, 10));
        }
        desk.begin("2*x=6");
        for (int n = 9; n >= -1; n--) {
            desk.step("x=4");
            Check.same("points of 3", desk.tutor.points(3), Math.max(n, 0));
        }
    }

    private static void wrongCalls() {
        TutorLines tutor = new TutorLines();
        for (int skill : new int[] {0, 4, -1, Integer.MIN_VALUE, Integer.MAX_VALUE}) {
            Check.refusesArgument("points " + skill, () -> tutor.points(skill));
        }
    }
}
