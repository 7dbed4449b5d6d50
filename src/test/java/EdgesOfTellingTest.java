/** The edges that the document names for promises 10 to 13 and 15, and for the number of calls. */
public final class EdgesOfTellingTest {
    public static void main(String[] args) {
        noSuchPartOfALine();
        lineWithoutATask();
        largestParts();
        noSuchPartOfSolutions();
        solutionsWithoutATask();
        solutionsWithoutAPlace();
        placesAtTheEdges();
        onesWithoutDigits();
        partBelow1();
        zeros();
        signsBetween();
        shortestAndLongest();
        printWithoutATask();
        noSuchByte();
        printedLatest();
        noSuchCount();
        countsOfALine();
        allFiveHundredAndTwelveCalls();
        Check.finish();
    }

    private static void noSuchPartOfALine() {
        Check.sentence(10, "no such number .. it goes ahead of IllegalStateException");
        Desk desk = Desk.with("2*x+3<4*x+5");
        Desk none = new Desk();
        for (int what : new int[] {Integer.MIN_VALUE, -2, -1, 9, 10, Integer.MAX_VALUE}) {
            Check.refusesArgument("line " + what, () -> desk.tutor.line(what));
            Check.refusesArgument("line " + what + " without a task", () -> none.tutor.line(what));
        }
        int[] due = {2, 1, 3, 1, 4, 1, 5, 1, 1};
        for (int what = 0; what <= 8; what++) {
            Check.same("line " + what, desk.tutor.line(what), due[what]);
        }
    }

    private static void lineWithoutATask() {
        Check.sentence(10, "IllegalStateException: there is no task (also below).");
        Desk none = new Desk();
        for (int what = 0; what <= 8; what++) {
            int asked = what;
            Check.refusesState("line " + what, () -> none.tutor.line(asked));
        }
    }

    private static void largestParts() {
        Check.sentence(10, "the parts of a, b, c, d, above and below each; 8: its R, 0 =, 1 <, 2 >");
        Check.same("largest", Desk.with("9999*x-9999=-9999*x+9999").parts(), "9999/1 -9999/1 -9999/1 9999/1 =");
        Check.same("smallest", Desk.with("1/9999*x-1/9999<-1/9999*x+1/9999").parts(),
                "1/9999 -1/9999 -1/9999 1/9999 <");
        Check.same("all 0", Desk.with("0>0").parts(), "0/1 0/1 0/1 0/1 >");
    }

    private static void noSuchPartOfSolutions() {
        Check.sentence(11, "no such number .. it goes ahead of IllegalStateException");
        Desk desk = Desk.with("x=1");
        Desk none = new Desk();
        for (int what : new int[] {Integer.MIN_VALUE, -1, 3, 4, Integer.MAX_VALUE}) {
            Check.refusesArgument("solutions " + what, () -> desk.tutor.solutions(what));
            Check.refusesArgument("solutions " + what + " without a task", () -> none.tutor.solutions(what));
        }
    }

    private static void solutionsWithoutATask() {
        Check.sentence(11, "IllegalStateException: there is no task (also below).");
        Desk none = new Desk();
        for (int what = 0; what <= 2; what++) {
            int asked = what;
            Check.refusesState("solutions " + what, () -> none.tutor.solutions(asked));
        }
    }

    private static void tell(String present, String due) {
        Check.same("solutions of \"" + present + "\"", Desk.with(present).solutions(), due);
    }

    private static void solutionsWithoutAPlace() {
        Check.sentence(11, "(0 and 1 without any)");
        tell("x=x+1", "0 0/1");
        tell("x+7<x+7", "0 0/1");
        tell("x+7>x+7", "0 0/1");
        tell("5=5", "1 0/1");
        tell("0<1/9999", "1 0/1");
        tell("1/9999<0", "0 0/1");
        tell("1/9999>0", "1 0/1");
        Desk desk = Desk.with("x<7/3");
        Check.same("a bound first", desk.solutions(), "3 7/3");
        desk.begin("5>6");
        Check.same("none behind a bound", desk.solutions(), "0 0/1");
    }

    private static void placesAtTheEdges() {
        Check.sentence(11, "3 all below, 4 all above a bound; 1, 2: the point's or bound's part above, below");
        tell("x=0", "2 0/1");
        tell("x<0", "3 0/1");
        tell("-x<0", "4 0/1");
        tell("2*x>3*x", "3 0/1");
        tell("x=-1/9999", "2 -1/9999");
        tell("x/9999=-9999", "2 -99980001/1");
        tell("-9999*x<1/9999", "4 -1/99980001");
        tell("x/9998+9999>x/9999-9999", "4 -1999200099996/1");
    }

    private static void print(String line, String due) {
        Desk desk = Desk.with(line);
        Check.same("print of \"" + line + "\"", desk.print(), due);
        Check.same("bytes of \"" + due + "\"", desk.tutor.print(), due.length());
        Check.same("byte behind \"" + due + "\"", desk.tutor.printed(due.length()), -1);
    }

    private static void onesWithoutDigits() {
        Check.sentence(12, "(1 and -1 without digits, otherwise the part above");
        print("1*x=-1*x", "x = -x");
        print("x+1=-x-1", "x + 1 = -x - 1");
        print("2*x=-2*x", "2x = -2x");
        print("11*x=-11*x", "11x = -11x");
        print("1/2*x=-1/2*x", "1/2x = -1/2x");
        print("1=-1", "1 = -1");
    }

    private static void partBelow1() {
        Check.sentence(12, "and / and the part below, if that isn't 1");
        print("4/2*x+6/3=8/4", "2x + 2 = 2");
        print("3/2*x+1/2=5/3", "3/2x + 1/2 = 5/3");
        print("x+1/9999=0-1/9999", "x + 1/9999 = -1/9999");
    }

    private static void zeros() {
        Check.sentence(12, "a side is its a, unless that is 0 .. then its b, unless that is 0 and a is not");
        print("0=0", "0 = 0");
        print("0*x+1=0-0*x", "1 = 0");
        print("x+0=x-0", "x = x");
        print("0<x", "0 < x");
        print("x>0", "x > 0");
    }

    private static void signsBetween() {
        Check.sentence(12, "with + or - between; - ahead of what is below 0; blanks around R and the signs between");
        print("x+2<-x-2", "x + 2 < -x - 2");
        print("-3=-3*x", "-3 = -3x");
        print("-3-x>3-x", "-x - 3 > -x + 3");
        Check.sentence(12, "(3/2x - 1 < -x, say, or 0 = x + 1/3.)");
        print("3/2*x-1<-x", "3/2x - 1 < -x");
        print("0=x+1/3", "0 = x + 1/3");
    }

    private static void shortestAndLongest() {
        Check.sentence(12, "How many bytes the present line has as it is printed");
        Check.same("shortest", Desk.with("x=x").tutor.print(), 5);
        Check.same("longest", Desk.with("-9999/9998*x-9997/9996<-9995/9994*x-9993/9992").tutor.print(), 49);
        print("-9999/9998*x-9997/9996>-9995/9994*x-9993/9992", "-9999/9998x - 9997/9996 > -9995/9994x - 9993/9992");
    }

    private static void printWithoutATask() {
        Check.sentence(12, "IllegalStateException: there is no task (also below).");
        Desk none = new Desk();
        Check.refusesState("print", none.tutor::print);
        Check.same("printed after it", none.tutor.printed(0), -1);
    }

    private static void noSuchByte() {
        Check.sentence(13, "-1 if there is none such");
        Desk desk = new Desk();
        Check.same("without a task", desk.tutor.printed(0), -1);
        desk.begin("x=12");
        Check.same("before any print", desk.tutor.printed(0), -1);
        Check.same("print", desk.tutor.print(), 6);
        Check.same("first byte", desk.tutor.printed(0), 'x');
        Check.same("last byte", desk.tutor.printed(5), '2');
        for (int i : new int[] {6, 7, 48, 49, 80, 1000, -1, -6, Integer.MIN_VALUE, Integer.MAX_VALUE}) {
            Check.same("printed " + i, desk.tutor.printed(i), -1);
        }
    }

    private static void printedLatest() {
        Check.sentence(13, "Byte i of what was printed latest");
        Desk desk = Desk.with("10*x+100=1000");
        Check.same("long one", desk.print(), "10x + 100 = 1000");
        desk.tutor.take();
        desk.tutor.take();
        desk.begin("x=1");
        Check.same("byte of the long one", desk.tutor.printed(15), '0');
        Check.same("short one", desk.print(), "x = 1");
        Check.same("byte behind the short one", desk.tutor.printed(5), -1);
        Check.same("byte of the long one", desk.tutor.printed(15), -1);
    }

    private static void noSuchCount() {
        Check.sentence(15, "-1 for another what");
        Desk desk = new Desk();
        for (int what : new int[] {-1, -2, 4, 5, Integer.MIN_VALUE, Integer.MAX_VALUE}) {
            Check.same("count " + what + " without a task", desk.tutor.count(what), -1);
        }
        desk.begin("x=1");
        for (int what : new int[] {-1, 4}) {
            Check.same("count " + what, desk.tutor.count(what), -1);
        }
    }

    private static void countsOfALine() {
        Check.sentence(15, "what 0: lines of the task (0 without one)");
        Desk desk = new Desk();
        Check.same("without a task", desk.tutor.count(0), 0);
        desk.begin("x");
        Check.same("after begin with a fault", desk.tutor.count(0), 0);
        desk.begin("x=1");
        Check.same("first line", desk.tutor.count(0), 1);
        desk.fill("x=1", 40);
        Check.same("last line", desk.tutor.count(0), 40);
        Check.sentence(15, "1: steps accepted, of all tasks; 2: steps answered by 0; 3: by 2");
        desk.begin("x=2");
        Check.same("after another begin", desk.counts(), "1 39 0 0");
        desk.step("2=x");
        desk.step("x=3");
        desk.step("x>1");
        desk.step("x>");
        Check.same("after steps of each answer", desk.counts(), "2 40 1 1");
        desk.tutor.undo();
        Check.same("after undo", desk.counts(), "1 40 1 1");
    }

    private static void allFiveHundredAndTwelveCalls() {
        Check.sentence(15, "An object is used for at most 512 calls after it has been made");
        TutorLines tutor = new TutorLines();
        tutor.put(0, 'x' | '=' << 8 | '1' << 16);
        tutor.begin(3);
        tutor.put(0, 'x' | '=' << 8 | '2' << 16);
        for (int call = 4; call <= 509; call++) {
            Check.same("call " + call, tutor.step(3), 0);
        }
        Check.same("call 510", tutor.count(2), 506);
        Check.same("call 511", tutor.print(), 5);
        Check.same("call 512", tutor.witness(0), 1);
    }
}
