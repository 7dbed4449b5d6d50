/** Promises 12 and 13: print and printed. */
public final class PrintTest {
    public static void main(String[] args) {
        lines();
        whatWasPrintedStays();
        Check.refusesState("print without a task", () -> new TutorLines().print());
        Check.finish();
    }

    private static void print(String line, String due) {
        Desk desk = Desk.with(line);
        Check.same("size of \"" + due + "\"", desk.tutor.print(), due.length());
        Check.same("print of \"" + line + "\"", desk.print(), due);
        Check.same("behind \"" + due + "\"", desk.tutor.printed(due.length()), -1);
        Check.same("ahead of \"" + due + "\"", desk.tutor.printed(-1), -1);
    }

    private static void lines() {
        print("3/2*x-1<-x", "3/2x - 1 < -x");
        print("0=x+1/3", "0 = x + 1/3");
        print("3*x-5=x/2+1", "3x - 5 = 1/2x + 1");
        print("-(2*x-3)/4*2>1-x", "-x + 3/2 > -x + 1");
        print("x=x", "x = x");
        print("-x=0", "-x = 0");
        print("-1/2*x-1/2=-1/2", "-1/2x - 1/2 = -1/2");
        print("-2*x+1=-7", "-2x + 1 = -7");
        print("x-x>x-x+5", "0 > 5");
        print("10*x+100=1000", "10x + 100 = 1000");
        print("1/1*x-1=2/2", "x - 1 = 1");
        print("-9999/9998*x-9997/9996<-9995/9994*x-9993/9992",
                "-9999/9998x - 9997/9996 < -9995/9994x - 9993/9992");
    }

    private static void whatWasPrintedStays() {
        Desk desk = Desk.with("2*x+4=6");
        Check.same("before any print", desk.tutor.printed(0), -1);
        Check.same("print", desk.tutor.print(), 10);
        desk.step("2*x=2");
        Check.same("after a step", desk.tutor.printed(3), '+');
        desk.begin("x>1");
        Check.same("after begin", desk.tutor.printed(9), '6');
        Check.same("print again", desk.tutor.print(), 5);
        Check.same("printed again", desk.tutor.printed(2), '>');
        Check.same("behind what was printed latest", desk.tutor.printed(5), -1);
        for (int i : new int[] {-1, 99, Integer.MIN_VALUE, Integer.MAX_VALUE}) {
            Check.same("printed " + i, desk.tutor.printed(i), -1);
        }
    }
}
