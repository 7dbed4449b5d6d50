/** The edges that the document names for promise 14. */
public final class EdgesOfPointsTest {
    /** For each skill a line, the plan's step from it, and a step of a slip that costs this skill a point. */
    private static final String[][] STEPS = {
        {"2*x=6+x", "x=6", "3*x=6"},
        {"x+4=6", "x=2", "x=10"},
        {"2*x=6", "x=3", "x=4"},
    };

    public static void main(String[] args) {
        for (int skill = 1; skill <= 3; skill++) {
            atFirst(skill);
            atMost10(skill);
            atLeast0(skill);
        }
        noSuchSkill();
        sidesAndRelation();
        anotherSlip();
        whatIsNotThere();
        Check.finish();
    }

    private static void gain(Desk desk, int skill) {
        desk.begin(STEPS[skill - 1][0]);
        Check.same("step of the plan", desk.step(STEPS[skill - 1][1]), 1);
    }

    private static void lose(Desk desk, int skill) {
        desk.begin(STEPS[skill - 1][0]);
        Check.same("step of a slip", desk.step(STEPS[skill - 1][2]), 0);
    }

    private static String only(int skill, int points) {
        int[] all = new int[4];
        all[skill] = points;
        return all[1] + " " + all[2] + " " + all[3];
    }

    private static void atFirst(int skill) {
        Check.sentence(14, "have points, 0 .. 10, at first 0");
        Desk desk = new Desk();
        Check.same("points of " + skill, desk.tutor.points(skill), 0);
        gain(desk, skill);
        Check.same("points after a step", desk.points(), only(skill, 1));
    }

    private static void atMost10(int skill) {
        Check.sentence(14, "that one gets a point (at most 10)");
        Desk desk = new Desk();
        for (int n = 1; n <= 12; n++) {
            gain(desk, skill);
            Check.same("points after step " + n, desk.points(), only(skill, Math.min(n, 10)));
        }
        lose(desk, skill);
        Check.same("points after a slip", desk.points(), only(skill, 9));
        gain(desk, skill);
        Check.same("points after one more", desk.points(), only(skill, 10));
    }

    private static void atLeast0(int skill) {
        Check.sentence(14, "the skill 1, 2 or 3 loses one (at least 0)");
        Desk desk = new Desk();
        lose(desk, skill);
        lose(desk, skill);
        Check.same("points after two slips", desk.points(), "0 0 0");
        gain(desk, skill);
        Check.same("points after a step", desk.points(), only(skill, 1));
        lose(desk, skill);
        Check.same("points after a slip", desk.points(), "0 0 0");
        lose(desk, skill);
        Check.same("points after another one", desk.points(), "0 0 0");
    }

    private static void noSuchSkill() {
        Check.sentence(14, "IllegalArgumentException: .. no such number");
        Desk none = new Desk();
        Desk desk = Desk.with("2*x=6");
        for (int skill : new int[] {0, 4, -1, 5, Integer.MIN_VALUE, Integer.MAX_VALUE}) {
            Check.refusesArgument("points " + skill + " without a task", () -> none.tutor.points(skill));
            Check.refusesArgument("points " + skill, () -> desk.tutor.points(skill));
        }
        Check.same("points without a task", none.points(), "0 0 0");
    }

    private static void sidesAndRelation() {
        Check.sentence(14, "when a step is accepted whose sides and R are those that the plan says");
        Desk desk = Desk.with("-2*x<8");
        Check.same("the plan's line written the other way", desk.step("-4<x"), 1);
        desk.tutor.undo();
        Check.same("the plan's sides, R not turned", desk.step("x<-4"), 0);
        Check.same("the line of a later step", desk.step("-x<4"), 1);
        desk.tutor.undo();
        Check.same("points", desk.points(), "0 0 0");
        Check.same("the plan's line in other words", desk.step("0+x/1>(0-4)*1"), 1);
        Check.same("points", desk.points(), "0 0 1");
        Check.same("a solved line again", desk.step("x>-4"), 1);
        Check.same("points", desk.points(), "0 0 1");
    }

    private static void anotherSlip() {
        Check.sentence(14, "when one is explained by slip 1, 2, or another one, the skill 1, 2 or 3 loses one");
        String[][] slips = {
            {"2*x=6+x", "3*x=6", "1 2 2"},
            {"x+4=6", "x=10", "2 1 2"},
            {"2*x+4=6", "x+2=6", "2 2 1"},
            {"2*x+4=6", "x+4=3", "2 2 1"},
            {"x<8", "-x<-8", "2 2 1"},
            {"2*x=6", "x=4", "2 2 1"},
            {"2*x=6", "x=5", "2 2 2"},
            {"2*x=6", "x<9", "2 2 2"},
            {"2*x<6", "x<4", "2 2 1"},
        };
        for (String[] slip : slips) {
            Desk desk = new Desk();
            for (int n = 0; n < 6; n++) {
                gain(desk, 1 + n % 3);
            }
            desk.begin(slip[0]);
            desk.step(slip[1]);
            Check.same("points after \"" + slip[1] + "\" behind \"" + slip[0] + "\"", desk.points(), slip[2]);
        }
    }

    private static void whatIsNotThere() {
        Check.sentence(14, "A line of the plan whose fractions have a part above 9999 isn't there");
        for (String line : new String[] {"9999*x=1-x", "x+1=-9999", "x/2=5000"}) {
            Desk desk = Desk.with(line);
            Check.same("step \"" + line + "\"", desk.step(line), 1);
            Check.same("points", desk.points(), "0 0 0");
        }
    }
}
