/** Promise 3: begin, and what LINE, FRACTIONS and FAULT mean. */
public final class BeginTest {
    private static final int NO_FAULT = -1;

    public static void main(String[] args) {
        grammar();
        numbers();
        products();
        largeParts();
        divisionsByZero();
        depth();
        whichFaultIsTold();
        longTexts();
        whatIsRead();
        aFaultLeavesAll();
        aNewTask();
        wrongLengths();
        Check.finish();
    }

    private static void fault(String text, int due) {
        Check.same("begin \"" + text + "\"", new Desk().begin(text), due == NO_FAULT ? 0 : -1 - due);
    }

    private static void grammar() {
        for (String line : new String[] {"x=1", "x<1", "x>1", "-x=-1", "(x)=(-1)", "x=-(x)", "1=2", "x*2/3*4=1",
            "x-1+2-3=4+x", "  x  =  1  ", "-(-(-x))=1", "((x)+(1))*2=1", "x/0001=1", "0=0"}) {
            fault(line, NO_FAULT);
        }
        fault("", 0);
        fault("   ", 3);
        fault("x", 1);
        fault("x ", 2);
        fault("x=", 2);
        fault("x= ", 3);
        fault("x=1+", 4);
        fault("x=1*", 4);
        fault("x=1/", 4);
        fault("x=-", 3);
        fault("x=(1", 4);
        fault("(x", 2);
        fault("-", 1);
        fault("=x", 0);
        fault(" =x", 1);
        fault("+x=1", 0);
        fault("x=+1", 2);
        fault("--x=1", 1);
        fault("- -x=1", 2);
        fault("x--1=2", 2);
        fault("x+-1=2", 2);
        fault("x*-2=1", 2);
        fault("x**2=1", 2);
        fault("2x=1", 1);
        fault("x2=1", 1);
        fault("xx=1", 1);
        fault("x(1)=1", 1);
        fault("(1)x=1", 3);
        fault("x/x=1", 2);
        fault("x/(2)=1", 2);
        fault("x/-2=1", 2);
        fault("/2=1", 0);
        fault("()=1", 1);
        fault("(x=1", 2);
        fault("(x<1)", 2);
        fault("x)=1", 1);
        fault("x=1)", 3);
        fault("x==1", 2);
        fault("x<=1", 2);
        fault("x=1=2", 3);
        fault("x=1<2", 3);
        fault("X=1", 0);
        fault("y=1", 0);
        fault("x=1.5", 3);
        fault("x=1\t", 3);
        fault("x\0=1", 1);
        fault("x=\u00b2", 2);
    }

    private static void numbers() {
        fault("9999=x", NO_FAULT);
        fault("0009=x", NO_FAULT);
        fault("12345=x", 4);
        fault("00001=x", 4);
        fault("x=12345", 6);
        fault("1 2 3 4=x", NO_FAULT);
        fault("1 2 3 4 5=x", 8);
        fault("x/12345=1", 6);
    }

    private static void products() {
        fault("x*x=1", 1);
        fault("x * x=1", 2);
        fault("x*2*x=1", 3);
        fault("x*(1+x)=1", 1);
        fault("2*(x+1)*(3-x)=1", 7);
        fault("1+x*x=1", 3);
        fault("1=(x*x)", 4);
        fault("x*(x-x)=1", NO_FAULT);
        fault("(x-x)*x=1", NO_FAULT);
        fault("x*0*x=1", NO_FAULT);
        fault("(2*x-x*2+1)*x=1", NO_FAULT);
    }

    private static void largeParts() {
        fault("9999*9999=x", 4);
        fault("9999+1=x", 4);
        fault("9999+0=x", NO_FAULT);
        fault("9998+1=x", NO_FAULT);
        fault("-9999-1=x", 5);
        fault("-9999-0=x", NO_FAULT);
        fault("1-9999-1=x", NO_FAULT);
        fault("9999-1+1=x", NO_FAULT);
        fault("9999+1-1=x", 4);
        fault("x=(9999+(1-2))", NO_FAULT);
        fault("9999*9999/9999=x", 4);
        fault("9999/9999*9999=x", NO_FAULT);
        fault("1/9999=x", NO_FAULT);
        fault("1/5000/2=x", 6);
        fault("2/5000/2=x", NO_FAULT);
        fault("1/9998+1/9999=x", 6);
        fault("1/100-1/101=x", 5);
        fault("1/99-1/101=x", NO_FAULT);
        fault("x*9999+x=1", 6);
        fault("x*9999+1=1", NO_FAULT);
        fault("x/100/100=1", 5);
        fault("(x+1/2)/5000=1", 7);
        fault("(x/2+1)/5000=1", 7);
        fault("(x+100)*100=1", 7);
        fault("100*(100+x)=1", 3);
        fault("100*(100*x)=1", 3);
        fault("(100*x)*100=1", 7);
        fault("1=-x*5000-x*5000", 9);
    }

    private static void divisionsByZero() {
        fault("1/0=x", 2);
        fault("x=1/0", 4);
        fault("x=0/0", 4);
        fault("x= 1 / 0 0", 9);
        fault("1/0000=x", 5);
        fault("1/0 =x", 2);
        fault("1/01=x", NO_FAULT);
        fault("1/10=x", NO_FAULT);
        fault("x*(2/0)=1", 5);
    }

    private static void depth() {
        fault("((((((((x))))))))=1", NO_FAULT);
        fault("((((((((x))))))))=((((((((1))))))))", NO_FAULT);
        fault("((((((((x)))))+(((((1))))))))=1", NO_FAULT);
        fault("((((((((x=1", 9);
        fault("(((((((((x=1", 8);
        fault("(((((((((x)))))))))=1", 8);
        fault("( ((((((( (x=1", 10);
        fault("((((((((x)*(1))))))))=1", NO_FAULT);
        fault("((((((((x*(1)))))))))=1", 10);
        fault("1=2*(((((((((x", 12);
    }

    private static void whichFaultIsTold() {
        fault("9999+1", 4);
        fault("9999+1y", 4);
        fault("9999+1)", 4);
        fault("9999+1+y", 4);
        fault("9999+1*y", 7);
        fault("9999+1*", 7);
        fault("9999+1/y", 7);
        fault("9999+", 5);
        fault("9999+y", 5);
        fault("9999+(1", 7);
        fault("9999+(1y)", 7);
        fault("9999+(1)y", 4);
        fault("9999+1/0", 7);
        fault("9999+x*x", 6);
        fault("9999+9999*9999=x", 9);
        fault("9999+1*9999*2=x", 11);
        fault("9999+2*(((((((((1", 15);
        fault("9999-1*9999-1=x", NO_FAULT);
        fault("9999*9y", 4);
        fault("9999*9", 4);
        fault("9999*9*y", 4);
        fault("9999*9/0", 4);
        fault("9999*(9", 7);
        fault("9999*(9y", 7);
        fault("9999*(9)y", 4);
        fault("9999*(9999+1)=x", 10);
        fault("9999*y", 5);
        fault("9999*", 5);
        fault("1/9999/2/y", 6);
        fault("1/9999/2y", 6);
        fault("1/9999/y", 7);
        fault("x*xy", 1);
        fault("x*x*x", 1);
        fault("x*(x", 4);
        fault("x*(x*x)", 4);
        fault("x*(x+9999*9)", 9);
        fault("1/0y", 2);
        fault("1/0*y", 2);
        // A NUMBER is at most four digits long: the fifth stands behind it and isn't looked at any more.
        fault("9999*12345=x", 4);
        fault("9999+12345=x", 4);
        fault("1/00000=x", 5);
        fault("x*x=y", 1);
    }

    private static void longTexts() {
        fault("x=1" + " ".repeat(77), NO_FAULT);
        fault(" ".repeat(77) + "x=1", NO_FAULT);
        fault(" ".repeat(80), 80);
        fault("x=" + " ".repeat(78), 80);
        fault("x=" + "1+".repeat(39), 80);
        fault("x=1" + "+1".repeat(38) + " ", NO_FAULT);
        fault("x=1" + "*1".repeat(38) + "/", 80);
        fault("x=" + "-(".repeat(8) + "1" + ")".repeat(8), NO_FAULT);
    }

    private static void read(String text, String parts) {
        Desk desk = Desk.with(text);
        Check.same("parts of \"" + text + "\"", desk.parts(), parts);
    }

    private static void whatIsRead() {
        read("x=7", "1/1 0/1 0/1 7/1 =");
        read("2*x+4<6-x", "2/1 4/1 -1/1 6/1 <");
        read("1-2-3>x", "0/1 -4/1 1/1 0/1 >");
        read("-2+3=-x+x*3", "0/1 1/1 2/1 0/1 =");
        read("-(2*x-3)/4*2>1-x", "-1/1 3/2 -1/1 1/1 >");
        read("12/8*x/6=6/4", "1/4 0/1 0/1 3/2 =");
        read("2/3/5*10=0/7", "0/1 4/3 0/1 0/1 =");
        read("2*(x-(3-x))*3=(1+1)*(2+2)", "12/1 -18/1 0/1 8/1 =");
        read("(1+x)*3-(x-2)=x*(2-4)", "2/1 5/1 -2/1 0/1 =");
        read("(x-x+2)*(x+3)=(x+3)*(x-x+2)", "2/1 6/1 2/1 6/1 =");
        read("x/2+x/3=1/2-1/3", "5/6 0/1 0/1 1/6 =");
        read("x=1 2 / 0 5", "1/1 0/1 0/1 12/5 =");
        read("-x*2+1=-1*2+1", "-2/1 1/1 0/1 -1/1 =");
        read("-3/6=-(1-x)", "0/1 -1/2 1/1 -1/1 =");
    }

    private static void aFaultLeavesAll() {
        Desk desk = Desk.with("2*x+4=6");
        desk.step("2*x=2");
        desk.step("x=0");
        Check.same("slip", desk.tutor.slip(), 6);
        Check.same("begin with a fault", desk.begin("x<5)"), -4);
        Check.same("present line", desk.parts(), "2/1 0/1 0/1 2/1 =");
        Check.same("counts", desk.counts(), "2 1 1 0");
        Check.same("slip", desk.tutor.slip(), 6);
        Check.same("witness", desk.witness(), "1/1");
        Check.same("begin of nothing", new Desk().begin("x"), -2);
        Desk none = new Desk();
        none.begin("x=");
        Check.refusesState("hint, no task having begun", none.tutor::hint);
    }

    private static void aNewTask() {
        Desk desk = Desk.with("2*x+4=6");
        desk.step("2*x=2");
        desk.step("x=9");
        Check.same("begin", desk.begin("x>3"), 0);
        Check.same("counts", desk.counts(), "1 1 1 0");
        Check.same("points", desk.points(), "0 1 0");
        Check.same("present line", desk.parts(), "1/1 0/1 0/1 3/1 >");
        Check.same("undo", desk.tutor.undo(), false);
    }

    private static void wrongLengths() {
        Desk desk = Desk.with("x=1");
        for (int length : new int[] {-1, 81, Integer.MIN_VALUE, Integer.MAX_VALUE}) {
            Check.refusesArgument("begin of length " + length, () -> desk.tutor.begin(length));
        }
        Check.same("begin of length 0", desk.tutor.begin(0), -1);
        desk.put(" ".repeat(77) + "x=1");
        Check.same("begin of length 80", desk.tutor.begin(80), 0);
    }
}
