import java.math.BigInteger;
import java.util.ArrayDeque;
import java.util.ArrayList;
import java.util.Arrays;
import java.util.List;

/**
 * A second tutor, written from the document in another way: it reads by a machine with a stack in place of recursion,
 * has fractions without a limit, and judges by trying numbers.
 */
final class Model {
    /** A fraction without a limit, in lowest terms. */
    record Frac(BigInteger above, BigInteger below) {
        static final Frac ZERO = of(0);
        static final Frac ONE = of(1);

        static Frac of(long whole) {
            return new Frac(BigInteger.valueOf(whole), BigInteger.ONE);
        }

        static Frac of(BigInteger above, BigInteger below) {
            BigInteger common = above.gcd(below);
            BigInteger divisor = below.signum() < 0 ? common.negate() : common;
            return new Frac(above.divide(divisor), below.divide(divisor));
        }

        Frac plus(Frac o) {
            return of(above.multiply(o.below).add(o.above.multiply(below)), below.multiply(o.below));
        }

        Frac times(Frac o) {
            return of(above.multiply(o.above), below.multiply(o.below));
        }

        Frac over(Frac o) {
            return of(above.multiply(o.below), below.multiply(o.above));
        }

        Frac negated() {
            return new Frac(above.negate(), below);
        }

        Frac minus(Frac o) {
            return plus(o.negated());
        }

        int sign() {
            return above.signum();
        }

        boolean isLarge() {
            BigInteger most = BigInteger.valueOf(9999);
            return above.abs().compareTo(most) > 0 || below.compareTo(most) > 0;
        }

        String digits() {
            return above.abs() + (below.equals(BigInteger.ONE) ? "" : "/" + below);
        }
    }

    /** a times x and b. */
    record Half(Frac a, Frac b) {
        boolean isLarge() {
            return a.isLarge() || b.isLarge();
        }

        Frac at(Frac x) {
            return a.times(x).plus(b);
        }

        Half over(Frac number) {
            return new Half(a.over(number), b.over(number));
        }

        Half negated() {
            return new Half(a.negated(), b.negated());
        }

        Half plus(Half o) {
            return new Half(a.plus(o.a), b.plus(o.b));
        }

        Half times(Half o) {
            return new Half(a.times(o.b).plus(b.times(o.a)), b.times(o.b));
        }

        String print() {
            String ahead = a.sign() < 0 ? "-" : "";
            if (a.sign() == 0) {
                return (b.sign() < 0 ? "-" : "") + b.digits();
            }
            String timesX = ahead + (a.digits().equals("1") ? "" : a.digits()) + "x";
            return b.sign() == 0 ? timesX : timesX + (b.sign() < 0 ? " - " : " + ") + b.digits();
        }

        /** As a pupil could write it. */
        String text() {
            String first = (a.sign() < 0 ? "-" : "") + a.digits() + "*x";
            return first + (b.sign() < 0 ? "-" : "+") + b.digits();
        }
    }

    record Row(Half left, char relation, Half right) {
        boolean isLarge() {
            return left.isLarge() || right.isLarge();
        }

        boolean holds(Frac x) {
            int sign = left.at(x).minus(right.at(x)).sign();
            return relation == '=' ? sign == 0 : relation == '<' ? sign < 0 : sign > 0;
        }

        /** The point or bound, or null. */
        Frac place() {
            Frac slope = left.a.minus(right.a);
            return slope.sign() == 0 ? null : right.b.minus(left.b).over(slope);
        }

        int kind() {
            Frac place = place();
            if (place == null) {
                return holds(Frac.ZERO) ? 1 : 0;
            }
            return relation == '=' ? 2 : holds(place.minus(Frac.ONE)) ? 3 : 4;
        }

        String text() {
            return left.text() + relation + right.text();
        }
    }

    private static final char END = 0xffff;

    final List<Row> rows = new ArrayList<>();
    Row refused;
    int slip;
    final int[] points = new int[4];
    final int[] answers = new int[3];
    String printed = "";

    private Row row;

    Row present() {
        return rows.get(rows.size() - 1);
    }

    int begin(String text) {
        int fault = read(text);
        if (fault >= 0) {
            return -1 - fault;
        }
        rows.clear();
        rows.add(row);
        refused = null;
        return 0;
    }

    int step(String text) {
        int fault = read(text);
        if (fault >= 0) {
            return -1 - fault;
        }
        int answer = judge(present(), row);
        answers[answer]++;
        if (answer == 1) {
            int skill = hint();
            if (skill > 0 && planned(present(), skill).equals(row)) {
                points[skill] = Math.min(10, points[skill] + 1);
            }
            rows.add(row);
            refused = null;
        } else {
            refused = row;
            slip = slipTo(row);
            if (slip > 0) {
                int skill = slip == 1 ? 1 : slip == 2 ? 2 : 3;
                points[skill] = Math.max(0, points[skill] - 1);
            }
        }
        return answer;
    }

    int hint() {
        int kind = kindOfPlan(present());
        return kind > 0 && planned(present(), kind).isLarge() ? -1 : kind;
    }

    boolean take() {
        int kind = hint();
        if (kind <= 0) {
            return false;
        }
        rows.add(planned(present(), kind));
        refused = null;
        return true;
    }

    boolean undo() {
        if (rows.size() == 1) {
            return false;
        }
        rows.remove(rows.size() - 1);
        refused = null;
        return true;
    }

    Frac witness() {
        List<Frac> places = new ArrayList<>();
        for (Frac shift : new Frac[] {Frac.ZERO, Frac.of(-1), Frac.ONE}) {
            for (Row one : new Row[] {present(), refused}) {
                if (one.place() != null) {
                    places.add(one.place().plus(shift));
                }
            }
        }
        for (Frac x : places) {
            if (present().holds(x) != refused.holds(x)) {
                return x;
            }
        }
        return Frac.ZERO;
    }

    String print() {
        printed = present().left.print() + " " + present().relation + " " + present().right.print();
        return printed;
    }

    static int kindOfPlan(Row r) {
        if (r.right.a.sign() != 0) {
            return 1;
        }
        if (r.left.b.sign() != 0) {
            return 2;
        }
        return r.left.a.sign() == 0 || r.left.a.equals(Frac.ONE) ? 0 : 3;
    }

    static Row planned(Row r, int kind) {
        Half nothing = new Half(r.right.a, Frac.ZERO);
        switch (kind) {
            case 1:
                return new Row(r.left.plus(nothing.negated()), r.relation, r.right.plus(nothing.negated()));
            case 2:
                return new Row(new Half(r.left.a, Frac.ZERO), r.relation,
                        new Half(Frac.ZERO, r.right.b.minus(r.left.b)));
            default:
                char turned = r.relation == '<' ? '>' : r.relation == '>' ? '<' : '=';
                return new Row(r.left.over(r.left.a), r.left.a.sign() < 0 ? turned : r.relation,
                        r.right.over(r.left.a));
        }
    }

    private int slipTo(Row written) {
        return slips(present()).indexOf(written) + 1;
    }

    /** The lines of the slips 1 to 6, null for those that can't be. */
    static List<Row> slips(Row r) {
        Frac a = r.left.a;
        Frac b = r.left.b;
        Frac c = r.right.a;
        Frac d = r.right.b;
        boolean factor = a.sign() != 0 && !a.equals(Frac.ONE);
        return Arrays.asList(
            c.sign() == 0 ? null : row(a.plus(c), b, r.relation, Frac.ZERO, d),
            b.sign() == 0 ? null : row(a, Frac.ZERO, r.relation, c, b.plus(d)),
            !factor ? null : row(Frac.ONE, b.over(a), r.relation, c, d),
            !factor || b.sign() == 0 ? null : row(Frac.ONE, b, r.relation, c.over(a), d.over(a)),
            r.relation == '=' ? null : row(a.negated(), b.negated(), r.relation, c.negated(), d.negated()),
            !factor || b.sign() != 0 || c.sign() != 0 ? null
                : row(Frac.ONE, Frac.ZERO, r.relation, Frac.ZERO, d.minus(a)));
    }

    private static Row row(Frac a, Frac b, char relation, Frac c, Frac d) {
        Row made = new Row(new Half(a, b), relation, new Half(c, d));
        return made.isLarge() ? null : made;
    }

    /** Solutions change at the places alone: these, what lies between and what lies outside tell all of them. */
    static int judge(Row present, Row written) {
        List<Frac> tried = new ArrayList<>(List.of(Frac.ZERO));
        Frac p = present.place();
        Frac q = written.place();
        for (Frac place : new Frac[] {p, q}) {
            if (place != null) {
                tried.addAll(List.of(place, place.minus(Frac.ONE), place.plus(Frac.ONE)));
            }
        }
        if (p != null && q != null) {
            tried.add(p.plus(q).over(Frac.of(2)));
        }
        boolean some = true;
        boolean others = true;
        for (Frac x : tried) {
            some &= !present.holds(x) || written.holds(x);
            others &= !written.holds(x) || present.holds(x);
        }
        return !some ? 0 : others ? 1 : 2;
    }

    /** What is open: at the top, or behind a parenthesis. */
    private static final class Frame {
        Half sum;
        Half term;
        boolean negative;
        char addSign;
        int addPlace;
        char timesSign;
        int timesPlace;
    }

    /** The fault, or -1: then row is what was read. */
    private int read(String text) {
        ArrayDeque<Frame> open = new ArrayDeque<>();
        open.push(new Frame());
        Half left = null;
        char relation = 0;
        boolean operandIsDue = true;
        int at = 0;
        while (true) {
            at = skip(text, at);
            char c = at < text.length() ? text.charAt(at) : END;
            Frame frame = open.peek();
            if (operandIsDue) {
                Half operand;
                if (c == '-' && frame.sum == null && frame.term == null && !frame.negative) {
                    frame.negative = true;
                    at++;
                    continue;
                } else if (c >= '0' && c <= '9') {
                    int value = 0;
                    int last = at;
                    for (int n = 0; n < 4 && at < text.length() && Character.digit(text.charAt(at), 10) >= 0; n++) {
                        value = 10 * value + text.charAt(at) - '0';
                        last = at;
                        at = skip(text, at + 1);
                    }
                    if (frame.timesSign == '/' && value == 0) {
                        return last;
                    }
                    operand = new Half(Frac.ZERO, Frac.of(value));
                } else if (frame.timesSign == '/') {
                    return at;
                } else if (c == 'x') {
                    operand = new Half(Frac.ONE, Frac.ZERO);
                    at++;
                } else if (c == '(' && open.size() <= 8) {
                    open.push(new Frame());
                    at++;
                    continue;
                } else {
                    return at;
                }
                if (!foldFactor(frame, operand)) {
                    return frame.timesPlace;
                }
                operandIsDue = false;
                continue;
            }
            if (c == '*' || c == '/') {
                frame.timesSign = c;
                frame.timesPlace = at++;
                operandIsDue = true;
                continue;
            }
            if (!foldTerm(frame)) {
                return frame.addPlace;
            }
            if (c == '+' || c == '-') {
                frame.addSign = c;
                frame.addPlace = at++;
                operandIsDue = true;
            } else if (c == ')' && open.size() > 1) {
                open.pop();
                at++;
                if (!foldFactor(open.peek(), frame.sum)) {
                    return open.peek().timesPlace;
                }
            } else if ((c == '=' || c == '<' || c == '>') && open.size() == 1 && left == null) {
                left = frame.sum;
                relation = c;
                open.pop();
                open.push(new Frame());
                at++;
                operandIsDue = true;
            } else if (c == END && open.size() == 1 && left != null) {
                row = new Row(left, relation, frame.sum);
                return -1;
            } else {
                return at;
            }
        }
    }

    private static int skip(String text, int from) {
        int at = from;
        while (at < text.length() && text.charAt(at) == ' ') {
            at++;
        }
        return at;
    }

    private static boolean foldFactor(Frame frame, Half operand) {
        if (frame.timesSign == 0) {
            frame.term = operand;
            return true;
        }
        if (frame.timesSign == '*') {
            if (frame.term.a.sign() != 0 && operand.a.sign() != 0) {
                return false;
            }
            frame.term = frame.term.times(operand);
        } else {
            frame.term = frame.term.over(operand.b);
        }
        frame.timesSign = 0;
        return !frame.term.isLarge();
    }

    private static boolean foldTerm(Frame frame) {
        if (frame.term == null) {
            return true;
        }
        if (frame.sum == null) {
            frame.sum = frame.negative ? frame.term.negated() : frame.term;
        } else {
            frame.sum = frame.sum.plus(frame.addSign == '+' ? frame.term : frame.term.negated());
        }
        frame.term = null;
        return !frame.sum.isLarge();
    }
}
