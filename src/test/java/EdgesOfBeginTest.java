/** The edges that the document names for promise 3 and for what a line is (promise 4 reads likewise). */
public final class EdgesOfBeginTest {
    private static final int NO_FAULT = -1;

    public static void main(String[] args) {
        lengths();
        noSuchLength();
        aFaultLeavesAll();
        eightyBytes();
        blanksAnywhere();
        whatIsNoBlank();
        signsAhead();
        anyNumberOfTerms();
        anyNumberOfFactors();
        missingParts();
        digits();
        lowestTerms();
        faultAtTheEnd();
        Check.finish();
    }

    private static void fault(String text, int due) {
        Check.same("begin \"" + text + "\"", new Desk().begin(text), due == NO_FAULT ? 0 : -1 - due);
    }

    private static void read(String text, String parts) {
        Check.same("parts of \"" + text + "\"", Desk.with(text).parts(), parts);
    }

    private static void lengths() {
        Check.sentence(3, "A task begins with the first length bytes as its line: 0; or -1 less the FAULT");
        Desk desk = new Desk();
        desk.put("x=1" + " ".repeat(77));
        Check.same("length 0", desk.tutor.begin(0), -1);
        Check.same("length 1", desk.tutor.begin(1), -2);
        Check.same("length 2", desk.tutor.begin(2), -3);
        for (int length = 3; length <= 80; length++) {
            Check.same("length " + length, desk.tutor.begin(length), 0);
        }
        desk.put("x=1234");
        Check.same("fewer bytes than were put", desk.tutor.begin(4), 0);
        Check.same("line of fewer bytes", desk.parts(), "1/1 0/1 0/1 12/1 =");
    }

    private static void noSuchLength() {
        Check.sentence(3, "no such length, which is 0 to 80");
        Desk none = new Desk();
        Desk desk = Desk.with("2*x=6" + " ".repeat(75));
        desk.tutor.take();
        String before = desk.state();
        for (int length : new int[] {-1, -80, 81, 82, 256, Integer.MIN_VALUE, Integer.MAX_VALUE}) {
            Check.refusesArgument("length " + length + " without a task", () -> none.tutor.begin(length));
            Check.refusesArgument("length " + length, () -> desk.tutor.begin(length));
        }
        Check.same("no task has begun", none.tutor.count(0), 0);
        Check.same("state after it", desk.state(), before);
        Check.same("length 80", desk.tutor.begin(80), 0);
    }

    private static void aFaultLeavesAll() {
        Check.sentence(3, "(then all stays)");
        Desk desk = Desk.with("2*x+4=6");
        desk.step("2*x=2");
        desk.tutor.print();
        desk.step("x=0");
        String before = desk.state();
        Check.same("state", before, "2 1 1 0; 0 1 0; slip 6; witness 1/1; printed \"2x = 2\"; "
                + "2/1 0/1 0/1 2/1 =; 2 1/1; hint 3");
        for (String text : new String[] {"", "x<5)", "x=9999+1", "x*x=1", "x=1/0", "(((((((((x", "7*x<12345"}) {
            Check.same("begin \"" + text + "\" has a fault", desk.begin(text) < 0, true);
            Check.same("state after \"" + text + "\"", desk.state(), before);
        }
        Check.same("undo, as the task is the same", desk.tutor.undo(), true);
    }

    private static void eightyBytes() {
        Check.sentence(3, "A LINE is a text of at most 80 bytes");
        read("x=1" + "+1".repeat(38) + " ", "1/1 0/1 0/1 39/1 =");
        read(" x=1" + "+1".repeat(38), "1/1 0/1 0/1 39/1 =");
        read(" ".repeat(77) + "x=1", "1/1 0/1 0/1 1/1 =");
        read("x" + " ".repeat(39) + "=" + " ".repeat(38) + "1", "1/1 0/1 0/1 1/1 =");
        fault("x=1" + " ".repeat(76) + "y", 79);
    }

    private static void blanksAnywhere() {
        Check.sentence(3, "blanks (32) anywhere");
        String line = "-(12+x)*34/5<x-(6)/78";
        String parts = Desk.with(line).parts();
        Check.same("line without blanks", parts, "-34/5 -408/5 1/1 -1/13 <");
        for (int at = 0; at <= line.length(); at++) {
            read(line.substring(0, at) + " " + line.substring(at), parts);
        }
        StringBuilder wide = new StringBuilder("  ");
        for (char c : line.toCharArray()) {
            wide.append(c).append("  ");
        }
        read(wide.toString(), parts);
        fault("  =x", 2);
        fault(" x  y", 4);
        fault("x = 9999  +  1", 10);
    }

    private static void whatIsNoBlank() {
        Check.sentence(3, "blanks (32) anywhere");
        for (int value : new int[] {0, 9, 10, 13, 31, 33, 95, 160, 255}) {
            fault((char) value + "x=1", 0);
            fault("x" + (char) value + "=1", 1);
            fault("x=1" + (char) value, 3);
            fault("x=1" + (char) value + "2", 3);
        }
    }

    private static void signsAhead() {
        Check.sentence(3, "SIDE: perhaps -, TERM, then any number of + TERM or - TERM");
        read("-x=-(-1)", "-1/1 0/1 0/1 1/1 =");
        read("-0=-x", "0/1 0/1 -1/1 0/1 =");
        fault("--x=1", 1);
        fault("x=--1", 3);
        fault("x=(--1)", 4);
        fault("+x=1", 0);
        fault("x=+1", 2);
        fault("x=(+1)", 3);
        fault("x+-1=1", 2);
        fault("x-+1=1", 2);
        fault("2*-x=1", 2);
        fault("1/-2=x", 2);
    }

    private static void anyNumberOfTerms() {
        Check.sentence(3, "SIDE: perhaps -, TERM, then any number of + TERM or - TERM");
        read("x=-1" + "-1".repeat(38), "1/1 0/1 0/1 -39/1 =");
        read("1" + "+x".repeat(38) + "=x", "38/1 1/1 1/1 0/1 =");
        read("x=(1" + "+1".repeat(37) + ")", "1/1 0/1 0/1 38/1 =");
    }

    private static void anyNumberOfFactors() {
        Check.sentence(3, "TERM: FACTOR, then any number of * FACTOR or / NUMBER");
        read("x=7" + "*1".repeat(38), "1/1 0/1 0/1 7/1 =");
        read("x=7" + "/1".repeat(38), "1/1 0/1 0/1 7/1 =");
        read("x*3" + "/3*3".repeat(18) + "=1", "3/1 0/1 0/1 1/1 =");
        fault("x/x=1", 2);
        fault("1/x=1", 2);
        fault("x/(2)=1", 2);
    }

    private static void missingParts() {
        Check.sentence(3, "FACTOR: x, NUMBER, or ( SIDE )");
        fault("=1", 0);
        fault("()=1", 1);
        fault("x=()", 3);
        fault("x=2*()", 5);
        fault("*x=1", 0);
        fault("x+=1", 2);
        fault("x*=1", 2);
        fault("x/=1", 2);
        fault("(x+1=1", 4);
        fault("x=1)", 3);
        fault("(x))=1", 3);
        fault("(x=1)", 2);
        fault("2x=1", 1);
        fault("x x=1", 2);
        fault("2(x)=1", 1);
        fault("(x)(1)=1", 3);
        fault("(x)2=1", 3);
        Check.sentence(3, "SIDE, =, < or >, SIDE");
        fault("x1", 1);
        fault("x==1", 2);
        fault("x<>1", 2);
        fault("x=1=1", 3);
        fault("x<1>1", 3);
        fault("<", 0);
    }

    private static void digits() {
        Check.sentence(3, "NUMBER: 1 to 4 digits (a fifth one is none; blanks between digits are passed over, too)");
        read("x=0", "1/1 0/1 0/1 0/1 =");
        read("x=9", "1/1 0/1 0/1 9/1 =");
        read("x=9999", "1/1 0/1 0/1 9999/1 =");
        read("x=0000", "1/1 0/1 0/1 0/1 =");
        read("x=0012", "1/1 0/1 0/1 12/1 =");
        read("x=1/0012", "1/1 0/1 0/1 1/12 =");
        read("x= 1 2  3   4 ", "1/1 0/1 0/1 1234/1 =");
        fault("10000=x", 4);
        fault("00000=x", 4);
        fault("00001=x", 4);
        fault("x=12345", 6);
        fault("x=123456", 6);
        fault("x=1 2 3 4 5", 10);
        fault("x=1234 5", 7);
        fault("x=(12345)", 7);
        fault("x=1+12345", 8);
        fault("x=1*12345", 8);
        fault("x=1/12345", 8);
        fault("x=-12345", 7);
        fault("x=1/", 4);
        fault("x=/1", 2);
        // The bytes next to the digits.
        fault("x=" + (char) ('0' - 1), 2);
        fault("x=" + (char) ('9' + 1), 2);
        fault("x=1" + (char) ('9' + 1), 3);
    }

    private static void lowestTerms() {
        Check.sentence(3, "FRACTIONS are in lowest terms, the part below above 0");
        read("x*2/4=6/4", "1/2 0/1 0/1 3/2 =");
        read("0*x=0/7", "0/1 0/1 0/1 0/1 =");
        read("-0/7=-x*0/9999", "0/1 0/1 0/1 0/1 =");
        read("x=-6/4", "1/1 0/1 0/1 -3/2 =");
        read("x=0-9999/9999", "1/1 0/1 0/1 -1/1 =");
        read("1/6-x/6=1/3-1/3", "-1/6 1/6 0/1 0/1 =");
        read("x/2-x/2=2/3-5/3", "0/1 0/1 0/1 -1/1 =");
        read("x=9998/9999", "1/1 0/1 0/1 9998/9999 =");
    }

    private static void faultAtTheEnd() {
        Check.sentence(3, "(its length at its end)");
        fault("", 0);
        fault(" ", 1);
        fault("x", 1);
        fault("x  ", 3);
        fault("x=", 2);
        fault("x=  ", 4);
        fault("x=-", 3);
        fault("x=(", 3);
        fault("x=(1", 4);
        fault("x=(1 ", 5);
        fault("x=1+", 4);
        fault("x=1*", 4);
        fault("x=1/ ", 5);
        fault("1234", 4);
        fault(" ".repeat(80), 80);
        fault("x=" + " ".repeat(78), 80);
        fault("x" + "+1".repeat(39) + " ", 80);
        fault("x=" + "1+".repeat(39), 80);
        fault("x=" + "1*".repeat(39), 80);
    }
}
