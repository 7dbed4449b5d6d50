/** The edges that the document names for promise 6. */
public final class EdgesOfWitnessTest {
    public static void main(String[] args) {
        theBoundOrPoint();
        oneTakenOff();
        onePutOn();
        thoseThatAreThere();
        zero();
        largeParts();
        noSuchPart();
        notAnsweredSo();
        Check.finish();
    }

    private static void tell(String present, String step, String due) {
        Desk desk = Desk.with(present);
        String what = "from \"" + present + "\" to \"" + step + "\"";
        Check.same("refused " + what, desk.step(step) != 1, true);
        Check.same("witness " + what, desk.witness(), due);
        Check.same("witness " + what + ", asked again", desk.witness(), due);
    }

    private static void theBoundOrPoint() {
        Check.sentence(6, "the bound or point of the present line, that of the other");
        tell("x=3", "x=5", "3/1");
        tell("x=5", "x=3", "5/1");
        tell("x=3", "x<3", "3/1");
        tell("x<3", "x=3", "3/1");
        tell("x<3", "x<5", "3/1");
        // Of 5 neither is true.
        tell("x<5", "x<3", "3/1");
        tell("x>3", "x>5", "5/1");
        tell("x>5", "x>3", "5/1");
        tell("x<5", "x>3", "5/1");
        tell("x>3", "x<5", "3/1");
        tell("x=3", "1=2", "3/1");
        tell("0=0", "x<3", "3/1");
        tell("1=2", "x=3", "3/1");
    }

    private static void oneTakenOff() {
        Check.sentence(6, "the same with 1 taken off");
        tell("x<3", "x>3", "2/1");
        tell("x>3", "x<3", "2/1");
        tell("x<3", "x>7", "2/1");
        // Of 6 neither is true, so the other's is next.
        tell("x>7", "x<3", "2/1");
        tell("x>7", "x<13/2", "6/1");
        tell("x<3", "x=2", "1/1");
        tell("x=2", "x<3", "1/1");
        tell("x=1", "x<3", "0/1");
        tell("x=3", "0=0", "2/1");
        tell("x<1/2", "1=2", "-1/2");
        // Of 3 and 4 both are true or neither; of 2 the other one alone.
        tell("x=3", "x<4", "2/1");
    }

    private static void onePutOn() {
        Check.sentence(6, "then the same with 1 put on");
        tell("x>3", "1=2", "4/1");
        tell("1=2", "x>3", "4/1");
        tell("x>3", "x=4", "5/1");
        tell("x=4", "x>3", "5/1");
        tell("x=9", "x>3", "8/1");
        tell("x=7/2", "x>3", "9/2");
        tell("x>3", "x=7/2", "4/1");
        tell("x>-1/2", "1=2", "1/2");
    }

    private static void thoseThatAreThere() {
        Check.sentence(6, "(those that are there)");
        tell("x<0", "1=2", "-1/1");
        tell("x>0", "1=2", "1/1");
        tell("1=2", "x<0", "-1/1");
        tell("1=2", "x>0", "1/1");
        tell("0=0", "x=0", "-1/1");
        tell("x=0", "0=0", "-1/1");
        tell("0=0", "x<-2", "-2/1");
        tell("x>5", "1=2", "6/1");
        tell("0=0", "x=5", "4/1");
    }

    private static void zero() {
        Check.sentence(6, "(those that are there); 0");
        tell("1=2", "0=0", "0/1");
        tell("0=0", "1=2", "0/1");
        tell("x<x", "x=x", "0/1");
        Desk desk = Desk.with("x=7/3");
        desk.step("x=5");
        Check.same("another one first", desk.witness(), "7/3");
        desk.begin("x+1=x");
        desk.step("x+1>x");
        Check.same("0 behind another one", desk.witness(), "0/1");
    }

    private static void largeParts() {
        Check.sentence(6, "its part above (0) or below (1)");
        tell("x/9999=9999", "x=0", "99980001/1");
        tell("9999*x=1/9999", "x=0", "1/99980001");
        tell("9999*x<1/9999", "1=2", "-99980000/99980001");
        tell("9999*x>1/9999", "1=2", "99980002/99980001");
        tell("-9999*x=1/9999", "x=0", "-1/99980001");
        tell("x/9998+9999=x/9999-9999", "x=0", "-1999200099996/1");
    }

    private static void noSuchPart() {
        Check.sentence(6, "no such number .. it goes ahead of IllegalStateException");
        Desk none = new Desk();
        Desk desk = Desk.with("x=1");
        desk.step("x=2");
        for (int part : new int[] {-1, 2, 3, Integer.MIN_VALUE, Integer.MAX_VALUE}) {
            Check.refusesArgument("witness " + part + " without a task", () -> none.tutor.witness(part));
            Check.refusesArgument("witness " + part, () -> desk.tutor.witness(part));
        }
        Check.same("witness after it", desk.witness(), "1/1");
        desk.step("x=1");
        Check.refusesArgument("witness 2 after an accepted step", () -> desk.tutor.witness(2));
    }

    private static void refuses(String when, Desk desk) {
        for (int part = 0; part <= 1; part++) {
            int asked = part;
            Check.refusesState("witness " + part + " " + when, () -> desk.tutor.witness(asked));
        }
    }

    private static void notAnsweredSo() {
        Check.sentence(6, "IllegalStateException: the latest step wasn't answered so.");
        Desk desk = new Desk();
        refuses("without a task", desk);
        desk.begin("2*x=6");
        refuses("without a step", desk);
        desk.step("x=");
        refuses("after a fault", desk);
        desk.step("x=3");
        refuses("after an accepted step", desk);
        desk.step("x=4");
        Check.same("after 0", desk.witness(), "3/1");
        desk.step("x<4");
        Check.same("after 2", desk.witness(), "2/1");
        desk.step("3=x");
        refuses("after the next accepted step", desk);
    }
}
