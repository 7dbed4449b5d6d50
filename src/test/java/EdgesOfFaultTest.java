/**
 * The edges of the FAULT that the document names, behind "or, ahead of what follows". They belong to promise 3, and to
 * promise 4, whose step has the same faults: each text is read by both.
 */
public final class EdgesOfFaultTest {
    private static final int NO_FAULT = -1;

    public static void main(String[] args) {
        twoFactorsWithX();
        sums();
        differences();
        products();
        quotients();
        inSize();
        lowestTermsFirst();
        leftToRight();
        zeroBehindASlash();
        eightOthers();
        theSignOfATerm();
        theSignOfAFactor();
        theSignOfANumber();
        asLongAsTheTextLets();
        Check.finish();
    }

    private static void fault(String text, int due) {
        int answer = -1 - due;
        Check.same("begin \"" + text + "\"", new Desk().begin(text), due == NO_FAULT ? 0 : answer);
        // Which of 0, 1, 2 a step without a fault is answered by is no matter here.
        int step = Desk.with("0=1").step(text);
        Check.same("step \"" + text + "\"", Math.min(step, 0), due == NO_FAULT ? 0 : answer);
    }

    private static void twoFactorsWithX() {
        Check.sentence(3, "the sign * of a product of two that both have an a that isn't 0");
        fault("x*x=1", 1);
        fault("1=x*x", 3);
        fault("2*x*x=1", 3);
        fault("x*2*x=1", 3);
        fault("(x-1)*(1-x)=0", 5);
        fault("x/9999*(x/9999)=0", 6);
        fault("(x*x)=1", 2);
        fault("x*(x-x)=1", NO_FAULT);
        fault("(x-x)*x=1", NO_FAULT);
        fault("0*x*x=1", NO_FAULT);
        fault("x*0*x=1", NO_FAULT);
        fault("(x+1-x)*(x+1)=1", NO_FAULT);
    }

    private static void sums() {
        Check.sentence(3, "the sign + - * / of something whose a or b would have a part above 9999 in size");
        fault("x=9998+1", NO_FAULT);
        fault("x=9999+0", NO_FAULT);
        fault("x=9999+1", 6);
        fault("x=1+9999", 3);
        fault("9998*x+x=1", NO_FAULT);
        fault("9999*x+x=1", 6);
        fault("9999*x+9999=1", NO_FAULT);
        fault("x=1/99+1/101", NO_FAULT);
        fault("x=1/100+1/101", 7);
        fault("x/99+x/101=1", NO_FAULT);
        fault("x/100+x/101=1", 5);
        fault("x=1/3333+1/9999", NO_FAULT);
        fault("x=1/2+9999", 5);
    }

    private static void differences() {
        Check.sentence(3, "the sign + - * / of something whose a or b would have a part above 9999 in size");
        fault("x=-9998-1", NO_FAULT);
        fault("x=-9999-0", NO_FAULT);
        fault("x=-9999-1", 7);
        fault("x=0-9999-1", 8);
        fault("x=0-9999", NO_FAULT);
        fault("-9998*x-x=1", NO_FAULT);
        fault("-9999*x-x=1", 7);
        fault("x=1/99-1/101", NO_FAULT);
        fault("x=1/100-1/101", 7);
        fault("x/100-x/101=1", 5);
        fault("x=9999-(0-1)", 6);
        fault("x=9999-9999", NO_FAULT);
    }

    private static void products() {
        Check.sentence(3, "the sign + - * / of something whose a or b would have a part above 9999 in size");
        fault("x=3333*3", NO_FAULT);
        fault("x=9999*1", NO_FAULT);
        fault("x=100*100", 5);
        fault("x=5000*2", 6);
        fault("100*99*x=1", NO_FAULT);
        fault("100*x*100=1", 5);
        fault("100*(100*x)=1", 3);
        fault("(x+100)*100=1", 7);
        fault("(100*x+1)*100=1", 9);
        fault("(1/99)*(1/101)=x", NO_FAULT);
        fault("(1/100)*(1/100)=x", 7);
        fault("(1/100)*(x/100)=1", 7);
        fault("0*9999=x", NO_FAULT);
    }

    private static void quotients() {
        Check.sentence(3, "the sign + - * / of something whose a or b would have a part above 9999 in size");
        fault("x=1/9999", NO_FAULT);
        fault("x=1/3333/3", NO_FAULT);
        fault("x=1/5000/2", 8);
        fault("x=1/100/100", 7);
        fault("x/5000/2=1", 6);
        fault("x/3333/3=1", NO_FAULT);
        fault("(x+1/2)/5000=1", 7);
        fault("(x/2+1)/5000=1", 7);
        fault("x=0/9999/9999", NO_FAULT);
        fault("x=9999/9999/9999", NO_FAULT);
    }

    private static void inSize() {
        Check.sentence(3, "a part above 9999 in size");
        fault("x=(0-5000)*2", 10);
        fault("x=(0-3333)*3", NO_FAULT);
        fault("x=-5000*2", 7);
        fault("(0-x)*9999*2=1", 10);
        fault("x=-1/5000/2", 9);
        fault("x=(0-1)/5000/2", 12);
        fault("x=-(9999)", NO_FAULT);
        fault("x=1-(9999+0)-1", NO_FAULT);
        fault("x=1-9999-2", 8);
    }

    private static void lowestTermsFirst() {
        Check.sentence(3, "FRACTIONS are in lowest terms");
        fault("x=9999/2*2", NO_FAULT);
        fault("x=9998/4999*2", NO_FAULT);
        fault("x=2/9999/2", NO_FAULT);
        fault("x=2/5000/4", 8);
        fault("x=1/9998+1/9998", NO_FAULT);
        fault("x=1/9999-1/9999", NO_FAULT);
        fault("x=5000/3*3", NO_FAULT);
        fault("x=5000*3/3", 6);
    }

    private static void leftToRight() {
        Check.sentence(3, "as always, from left to right");
        fault("x=9999+1-1", 6);
        fault("x=9999-1+1", NO_FAULT);
        fault("x=9999+(1-1)", NO_FAULT);
        fault("x=9999*2/2", 6);
        fault("x=9999/2*2", NO_FAULT);
        fault("x=9999*(2/2)", NO_FAULT);
        fault("x=1/5000/2*2", 8);
    }

    private static void zeroBehindASlash() {
        Check.sentence(3, "/ with a 0 behind (the NUMBER's last digit)");
        fault("x=1/0", 4);
        fault("x=0/0", 4);
        fault("x=1/00", 5);
        fault("x=1/0000", 7);
        fault("x=1/0 0", 6);
        fault("x=1/ 0 0 ", 7);
        fault("x/0=1", 2);
        fault("(x/0)=1", 3);
        fault("x=1/0001", NO_FAULT);
        fault("x=1/1000", NO_FAULT);
        fault("x=1/0/0", 4);
        fault("x=2*0/1", NO_FAULT);
        fault("x=1*0", NO_FAULT);
    }

    private static void eightOthers() {
        Check.sentence(3, "a ( that lies in eight others");
        for (int n = 1; n <= 8; n++) {
            fault("(".repeat(n) + "x" + ")".repeat(n) + "=1", NO_FAULT);
            fault("x=" + "(".repeat(n) + "1" + ")".repeat(n), NO_FAULT);
        }
        fault("(".repeat(9) + "x" + ")".repeat(9) + "=1", 8);
        fault("x=" + "(".repeat(9) + "1" + ")".repeat(9), 10);
        fault("(".repeat(80), 8);
        fault("( ( ( ( ( ( ( ( (x", 16);
        fault("2*(".repeat(8) + "x*(1", 26);
        fault("-(".repeat(9), 17);
        // Those that are closed again don't count.
        fault("(((((((((x)", 8);
        fault("((((((((x)+(1)*(2))))))))=1", NO_FAULT);
        fault("(1)+(2)+(3)+(4)+(5)+(6)+(7)+(8)+(9)+(x)=1", NO_FAULT);
        fault("((((((((x))))))))+((((((((1))))))))=1", NO_FAULT);
        fault("((((((((x))))))))+(((((((((1", 26);
    }

    private static void theSignOfATerm() {
        Check.sentence(3, "A sign's fault is told if there is no other one up to the end of the TERM (of + and -)");
        fault("9999+1", 4);
        fault("9999+1y", 4);
        fault("9999+1=y", 4);
        fault("9999+1+y", 4);
        fault("9999+1)", 4);
        fault("-9999-1+", 5);
        fault("9999+1*2*3y", 4);
        fault("9999+1*y", 7);
        fault("9999+1*2/y", 9);
        fault("9999-x*x", 6);
        fault("9999+1/0", 7);
        fault("9999+2*5000", 6);
        fault("9999+1/5000/2", 11);
        fault("9999+(1y", 7);
        fault("9999+(1", 7);
        fault("9999+(9999+1)", 10);
        fault("9999+(((((((((1", 13);
        fault("9999+y", 5);
        fault("9999+", 5);
    }

    private static void theSignOfAFactor() {
        Check.sentence(3, "A sign's fault is told if there is no other one up to the end of the .. FACTOR");
        fault("x*xy", 1);
        fault("x*x*y", 1);
        fault("x*x/0", 1);
        fault("x*x+", 1);
        fault("x*x", 1);
        fault("x*(x)y", 1);
        fault("x*(x", 4);
        fault("x*(xy", 4);
        fault("x*(x*x)", 4);
        fault("x*(x/0)", 5);
        fault("x*(x+9999+1)", 4 + 5);
        fault("9999*2y", 4);
        fault("9999*2*y", 4);
        fault("9999*(2", 7);
        fault("9999*y", 5);
        fault("9999*", 5);
        fault("9999*(((((((((2", 13);
    }

    private static void theSignOfANumber() {
        Check.sentence(3, "A sign's fault is told if there is no other one up to the end of the .. NUMBER behind it");
        fault("1/5000/2y", 6);
        fault("1/5000/2", 6);
        fault("1/5000/2/y", 6);
        fault("1/5000/2/0", 6);
        fault("1/5000/2*", 6);
        fault("1/5000/0", 7);
        fault("1/5000/y", 7);
        fault("1/5000/", 7);
    }

    private static void asLongAsTheTextLets() {
        Check.sentence(3, "as long as the text lets it be; what stands behind that isn't looked at any more");
        // 9999+0 would do, 9999+01 doesn't; 1000*9 would do, 1000*90 doesn't.
        fault("9999+01=x", 4);
        fault("9999+0 1=x", 4);
        fault("9999+0*7=x", NO_FAULT);
        fault("9999+1*0=x", NO_FAULT);
        fault("9999+1/2=x", 4);
        fault("1000*9=x", NO_FAULT);
        fault("1000*9 0=x", 4);
        fault("1/1000/9=x", NO_FAULT);
        fault("1/1000/9 0=x", 6);
        fault("x=1/0 1", NO_FAULT);
        // A NUMBER is no longer than four digits: the fifth one stands behind it.
        fault("9999*12345", 4);
        fault("9999+12345", 4);
        fault("1/5000/12345", 6);
        fault("1/00000", 5);
        fault("9998+00001", 9);
    }
}
