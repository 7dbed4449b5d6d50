/** A tutor for lines with one unknown: it reads steps, judges them, explains refused ones and gives hints. */
public final class TutorLines {
    private static final int TEXT_SIZE = 80;
    private static final int BYTES_OF_PUT = 4;
    private static final int MOST_LINES = 40;
    private static final int MOST_POINTS = 10;
    private static final int SKILLS = 3;
    private static final int[] WITNESS_SHIFTS = {0, -1, 1};

    private final byte[] text;
    private final Reader reader;
    private final Line[] lines;
    private int lineCount;
    private final Line written;
    private final Line scratch;
    private final SolutionSet presentSet;
    // Those of the latest step, kept for witness() as long as refused holds.
    private final SolutionSet writtenSet;
    private boolean refused;
    private int slipFound;
    private final Fraction candidate;
    private final Paper paper;
    private final int[] skillPoints;
    private final int[] answers;

    public TutorLines() {
        text = new byte[TEXT_SIZE];
        reader = new Reader();
        lines = new Line[MOST_LINES];
        for (int i = 0; i < MOST_LINES; i++) {
            lines[i] = new Line();
        }
        written = new Line();
        scratch = new Line();
        presentSet = new SolutionSet();
        writtenSet = new SolutionSet();
        candidate = new Fraction();
        paper = new Paper();
        skillPoints = new int[SKILLS + 1];
        answers = new int[SolutionSet.ANSWERS];
    }

    public void put(int i, int v) throws IllegalArgumentException {
        requireNumber(i, 0, TEXT_SIZE - 1);
        for (int k = 0; k < BYTES_OF_PUT && i + k < TEXT_SIZE; k++) {
            text[i + k] = (byte) (v >> (8 * k));
        }
    }

    public int begin(int length) throws IllegalArgumentException {
        requireNumber(length, 0, TEXT_SIZE);
        int fault = reader.read(text, length, written);
        if (fault != Reader.NO_FAULT) {
            return -1 - fault;
        }
        lineCount = 0;
        append(written);
        return 0;
    }

    public int step(int length) throws IllegalArgumentException, IllegalStateException {
        requireNumber(length, 0, TEXT_SIZE);
        requireTask();
        requireRoom();
        int fault = reader.read(text, length, written);
        if (fault != Reader.NO_FAULT) {
            return -1 - fault;
        }
        presentSet.find(present());
        writtenSet.find(written);
        int answer = presentSet.judge(writtenSet);
        answers[answer]++;
        if (answer == SolutionSet.SAME) {
            accept();
        } else {
            refuse();
        }
        return answer;
    }

    public int slip() {
        return refused ? slipFound : 0;
    }

    public long witness(int part) throws IllegalArgumentException, IllegalStateException {
        requireNumber(part, 0, 1);
        if (!refused) {
            throw new IllegalStateException();
        }
        presentSet.find(present());
        findWitness();
        return part == 0 ? candidate.above : candidate.below;
    }

    public int hint() throws IllegalStateException {
        requireTask();
        return Plan.write(present(), scratch);
    }

    public boolean take() throws IllegalStateException {
        requireTask();
        requireRoom();
        if (Plan.write(present(), scratch) <= 0) {
            return false;
        }
        append(scratch);
        return true;
    }

    public boolean undo() throws IllegalStateException {
        requireTask();
        if (lineCount == 1) {
            return false;
        }
        lineCount--;
        refused = false;
        return true;
    }

    public int line(int what) throws IllegalArgumentException, IllegalStateException {
        requireNumber(what, 0, 8);
        requireTask();
        Line present = present();
        if (what == 8) {
            return present.relation;
        }
        Side side = what < 4 ? present.left : present.right;
        Fraction fraction = what % 4 < 2 ? side.a : side.b;
        return (int) (what % 2 == 0 ? fraction.above : fraction.below);
    }

    public long solutions(int what) throws IllegalArgumentException, IllegalStateException {
        requireNumber(what, 0, 2);
        requireTask();
        presentSet.find(present());
        if (what == 0) {
            return presentSet.kind;
        }
        return what == 1 ? presentSet.place.above : presentSet.place.below;
    }

    public int print() throws IllegalStateException {
        requireTask();
        paper.write(present());
        return paper.size();
    }

    public int printed(int i) {
        return paper.byteAt(i);
    }

    public int points(int skill) throws IllegalArgumentException {
        requireNumber(skill, 1, SKILLS);
        return skillPoints[skill];
    }

    public int count(int what) {
        switch (what) {
            case 0:
                return lineCount;
            case 1:
                return answers[SolutionSet.SAME];
            case 2:
                return answers[SolutionSet.OTHERS];
            case 3:
                return answers[SolutionSet.MORE];
            default:
                return -1;
        }
    }

    private static void requireNumber(int number, int lowest, int highest) {
        if (number < lowest || number > highest) {
            throw new IllegalArgumentException();
        }
    }

    private void requireTask() {
        if (lineCount == 0) {
            throw new IllegalStateException();
        }
    }

    private void requireRoom() {
        if (lineCount >= MOST_LINES) {
            throw new IllegalStateException();
        }
    }

    /** Only called behind requireTask(), or while a refused step is kept, which no new object has. */
    private Line present() {
        return lines[lineCount > 0 ? lineCount - 1 : 0];
    }

    private void append(Line line) {
        if (lineCount < MOST_LINES) {
            lines[lineCount].copy(line);
            lineCount++;
        }
        refused = false;
    }

    private void accept() {
        int skill = Plan.write(present(), scratch);
        if (skill > 0 && scratch.sameAs(written)) {
            skillPoints[skill] = Math.min(skillPoints[skill] + 1, MOST_POINTS);
        }
        append(written);
    }

    private void refuse() {
        refused = true;
        slipFound = Slips.explain(present(), written, scratch);
        if (slipFound > 0) {
            int skill = Math.min(slipFound, SKILLS);
            skillPoints[skill] = Math.max(skillPoints[skill] - 1, 0);
        }
    }

    private void findWitness() {
        for (int shift : WITNESS_SHIFTS) {
            if (tellsApart(presentSet, shift) || tellsApart(writtenSet, shift)) {
                return;
            }
        }
        candidate.setWhole(0);
    }

    /** Leaves the number that was tried in candidate. */
    private boolean tellsApart(SolutionSet set, int shift) {
        if (!set.hasPlace()) {
            return false;
        }
        candidate.setShifted(set.place, shift);
        return presentSet.holds(candidate) != writtenSet.holds(candidate);
    }

    /** A fraction in lowest terms, the part below above 0; it is written over, so that calls make no objects. */
    private static final class Fraction {
        private static final int LARGEST_PART = 9999;
        // Numbers of 63 bits have no more than some 90 such steps.
        private static final int MOST_EUCLID_STEPS = 200;

        long above;
        long below = 1;

        void set(long newAbove, long newBelow) {
            if (newBelow == 0) {
                setWhole(0);
                return;
            }
            long divisor = newBelow;
            long rest = newAbove;
            for (int n = 0; n < MOST_EUCLID_STEPS && rest != 0; n++) {
                long nextRest = divisor % rest;
                divisor = rest;
                rest = nextRest;
            }
            // The sign of the part below, so that this part ends above 0.
            if ((divisor < 0) != (newBelow < 0)) {
                divisor = -divisor;
            }
            above = newAbove / divisor;
            below = newBelow / divisor;
        }

        void setWhole(long whole) {
            above = whole;
            below = 1;
        }

        void copy(Fraction other) {
            above = other.above;
            below = other.below;
        }

        void setShifted(Fraction other, int shift) {
            above = other.above + shift * other.below;
            below = other.below;
        }

        void setOpposite(Fraction other) {
            above = -other.above;
            below = other.below;
        }

        void setSum(Fraction p, Fraction q) {
            set(p.above * q.below + q.above * p.below, p.below * q.below);
        }

        void setDifference(Fraction p, Fraction q) {
            set(p.above * q.below - q.above * p.below, p.below * q.below);
        }

        void setProduct(Fraction p, Fraction q) {
            set(p.above * q.above, p.below * q.below);
        }

        /** The divisor q isn't 0: every caller has looked. */
        void setQuotient(Fraction p, Fraction q) {
            set(p.above * q.below, p.below * q.above);
        }

        boolean isWhole(long whole) {
            return above == whole && below == 1;
        }

        boolean isZero() {
            return above == 0;
        }

        boolean sameAs(Fraction other) {
            return above == other.above && below == other.below;
        }

        boolean fits() {
            return above >= -LARGEST_PART && above <= LARGEST_PART && below <= LARGEST_PART;
        }

        /**
         * Below, at or above 0 as this one is less than, the same as or more than the other. The parts of bounds
         * have up to 17 digits, so that products across would not fit a long: wholes are compared instead, then
         * what is left over, turned upside down.
         */
        int compareWith(Fraction other) {
            long p = above;
            long q = below;
            long r = other.above;
            long s = other.below;
            int sense = 1;
            for (int n = 0; n < MOST_EUCLID_STEPS && q > 0 && s > 0; n++) {
                long whole = Math.floorDiv(p, q);
                long otherWhole = Math.floorDiv(r, s);
                if (whole != otherWhole) {
                    return whole < otherWhole ? -sense : sense;
                }
                long rest = p - whole * q;
                long otherRest = r - otherWhole * s;
                if (rest == 0 || otherRest == 0) {
                    return sense * Long.compare(rest, otherRest);
                }
                p = q;
                q = rest;
                r = s;
                s = otherRest;
                sense = -sense;
            }
            return 0;
        }
    }

    /** a times x and b. */
    private static final class Side {
        final Fraction a = new Fraction();
        final Fraction b = new Fraction();

        void setWhole(int newA, int newB) {
            a.setWhole(newA);
            b.setWhole(newB);
        }

        void copy(Side other) {
            a.copy(other.a);
            b.copy(other.b);
        }

        void turnToOpposite() {
            a.setOpposite(a);
            b.setOpposite(b);
        }

        void add(Side other) {
            a.setSum(a, other.a);
            b.setSum(b, other.b);
        }

        void subtract(Side other) {
            a.setDifference(a, other.a);
            b.setDifference(b, other.b);
        }

        /** One of the two has no x: every caller has looked. */
        void multiply(Side other) {
            if (a.isZero()) {
                a.setProduct(b, other.a);
            } else {
                a.setProduct(a, other.b);
            }
            b.setProduct(b, other.b);
        }

        /** The number isn't 0: every caller has looked. */
        void divide(Fraction number) {
            a.setQuotient(a, number);
            b.setQuotient(b, number);
        }

        boolean sameAs(Side other) {
            return a.sameAs(other.a) && b.sameAs(other.b);
        }

        boolean fits() {
            return a.fits() && b.fits();
        }
    }

    /** Two sides and the R between them. */
    private static final class Line {
        static final int EQUAL = 0;
        static final int LESS = 1;
        static final int GREATER = 2;

        final Side left = new Side();
        final Side right = new Side();
        int relation;

        void copy(Line other) {
            left.copy(other.left);
            right.copy(other.right);
            relation = other.relation;
        }

        void turnRelation() {
            if (relation != EQUAL) {
                relation = relation == LESS ? GREATER : LESS;
            }
        }

        boolean sameAs(Line other) {
            return relation == other.relation && left.sameAs(other.left) && right.sameAs(other.right);
        }

        boolean fits() {
            return left.fits() && right.fits();
        }
    }

    /** Reads a text as a line, or finds its fault. */
    private static final class Reader {
        static final int NO_FAULT = -1;
        private static final int END = -1;
        private static final int BLANK = 32;
        private static final int MOST_DIGITS = 4;
        private static final int MOST_DEPTH = 8;

        private byte[] text = new byte[0];
        private int length;
        private int position;
        private int fault;
        private int lastDigit;
        // What is read at each depth of parentheses: the sum so far, its latest term, that one's latest factor.
        private final Side[] sums = new Side[MOST_DEPTH + 1];
        private final Side[] terms = new Side[MOST_DEPTH + 1];
        private final Side[] factors = new Side[MOST_DEPTH + 1];

        Reader() {
            for (int i = 0; i <= MOST_DEPTH; i++) {
                sums[i] = new Side();
                terms[i] = new Side();
                factors[i] = new Side();
            }
        }

        /** The fault of the first bytes, or NO_FAULT: only then the line that was handed in is all written. */
        int read(byte[] newText, int newLength, Line into) {
            text = newText;
            length = Math.min(newLength, newText.length);
            position = 0;
            fault = NO_FAULT;
            if (readSide(0)) {
                into.left.copy(sums[0]);
                if (readRelation(into) && readSide(0)) {
                    into.right.copy(sums[0]);
                    if (next() != END) {
                        failAt(position);
                    }
                }
            }
            return fault;
        }

        private boolean readRelation(Line into) {
            switch (next()) {
                case '=':
                    into.relation = Line.EQUAL;
                    break;
                case '<':
                    into.relation = Line.LESS;
                    break;
                case '>':
                    into.relation = Line.GREATER;
                    break;
                default:
                    return failAt(position);
            }
            position++;
            return true;
        }

        private boolean readSide(int depth) {
            boolean opposite = next() == '-';
            if (opposite) {
                position++;
            }
            if (!readTerm(depth)) {
                return false;
            }
            Side sum = sums[depth];
            sum.copy(terms[depth]);
            if (opposite) {
                sum.turnToOpposite();
            }
            for (int n = 0; n < TEXT_SIZE; n++) {
                int sign = next();
                if (sign != '+' && sign != '-') {
                    return true;
                }
                int place = position;
                position++;
                if (!readTerm(depth)) {
                    return false;
                }
                if (sign == '+') {
                    sum.add(terms[depth]);
                } else {
                    sum.subtract(terms[depth]);
                }
                if (!sum.fits()) {
                    return failAt(place);
                }
            }
            return true;
        }

        private boolean readTerm(int depth) {
            if (!readFactor(depth)) {
                return false;
            }
            Side term = terms[depth];
            term.copy(factors[depth]);
            for (int n = 0; n < TEXT_SIZE; n++) {
                int sign = next();
                if (sign != '*' && sign != '/') {
                    return true;
                }
                int place = position;
                position++;
                boolean done = sign == '*' ? multiply(depth, place) : divide(depth);
                if (!done) {
                    return false;
                }
                if (!term.fits()) {
                    return failAt(place);
                }
            }
            return true;
        }

        private boolean multiply(int depth, int place) {
            if (!readFactor(depth)) {
                return false;
            }
            if (!terms[depth].a.isZero() && !factors[depth].a.isZero()) {
                return failAt(place);
            }
            terms[depth].multiply(factors[depth]);
            return true;
        }

        private boolean divide(int depth) {
            if (!readNumber(factors[depth])) {
                return false;
            }
            Fraction number = factors[depth].b;
            if (number.isZero()) {
                return failAt(lastDigit);
            }
            terms[depth].divide(number);
            return true;
        }

        private boolean readFactor(int depth) {
            switch (next()) {
                case 'x':
                    position++;
                    factors[depth].setWhole(1, 0);
                    return true;
                case '(':
                    return readParentheses(depth);
                default:
                    return readNumber(factors[depth]);
            }
        }

        private boolean readParentheses(int depth) {
            if (depth >= MOST_DEPTH) {
                return failAt(position);
            }
            position++;
            if (!readSide(depth + 1)) {
                return false;
            }
            if (next() != ')') {
                return failAt(position);
            }
            position++;
            factors[depth].copy(sums[depth + 1]);
            return true;
        }

        private boolean readNumber(Side into) {
            if (!isDigit(next())) {
                return failAt(position);
            }
            int number = 0;
            for (int n = 0; n < MOST_DIGITS && isDigit(next()); n++) {
                number = number * 10 + (next() - '0');
                lastDigit = position;
                position++;
            }
            into.setWhole(0, number);
            return true;
        }

        private static boolean isDigit(int value) {
            return value >= '0' && value <= '9';
        }

        /** Passes over blanks; 0 .. 255, or END, then the position is the length. */
        private int next() {
            while (position < length && text[position] == BLANK) {
                position++;
            }
            return position < length ? text[position] & 255 : END;
        }

        private boolean failAt(int place) {
            fault = place;
            return false;
        }
    }

    /** The solutions of a line. */
    private static final class SolutionSet {
        static final int NONE = 0;
        static final int ALL = 1;
        static final int POINT = 2;
        static final int BELOW = 3;
        static final int ABOVE = 4;

        // How a step is answered whose solutions are compared with those of the present line.
        static final int OTHERS = 0;
        static final int SAME = 1;
        static final int MORE = 2;
        static final int ANSWERS = 3;

        int kind;
        // The point or the bound; 0 without any.
        final Fraction place = new Fraction();
        private final Fraction slope = new Fraction();

        void find(Line line) {
            slope.setDifference(line.left.a, line.right.a);
            place.setDifference(line.right.b, line.left.b);
            if (slope.isZero()) {
                kind = isTrueOfZero(line.relation, place) ? ALL : NONE;
                place.setWhole(0);
                return;
            }
            place.setQuotient(place, slope);
            if (line.relation == Line.EQUAL) {
                kind = POINT;
            } else {
                kind = (line.relation == Line.LESS) == (slope.above > 0) ? BELOW : ABOVE;
            }
        }

        private static boolean isTrueOfZero(int relation, Fraction right) {
            switch (relation) {
                case Line.LESS:
                    return right.above > 0;
                case Line.GREATER:
                    return right.above < 0;
                default:
                    return right.above == 0;
            }
        }

        boolean hasPlace() {
            return kind >= POINT;
        }

        boolean holds(Fraction x) {
            switch (kind) {
                case ALL:
                    return true;
                case POINT:
                    return x.sameAs(place);
                case BELOW:
                    return x.compareWith(place) < 0;
                case ABOVE:
                    return x.compareWith(place) > 0;
                default:
                    return false;
            }
        }

        int judge(SolutionSet written) {
            if (!isPartOf(written)) {
                return OTHERS;
            }
            return written.isPartOf(this) ? SAME : MORE;
        }

        private boolean isPartOf(SolutionSet other) {
            if (kind == NONE || other.kind == ALL) {
                return true;
            }
            if (kind == POINT) {
                return other.holds(place);
            }
            if (kind != other.kind) {
                return false;
            }
            int order = place.compareWith(other.place);
            return kind == BELOW ? order <= 0 : order >= 0;
        }
    }

    /** What to do next with a line. */
    private static final class Plan {
        /** Writes the plan's line: its step 1, 2 or 3; 0 if the line is solved; -1 if what it says is too large. */
        static int write(Line from, Line to) {
            int kind = kindFor(from);
            to.copy(from);
            switch (kind) {
                case 1:
                    to.left.a.setDifference(from.left.a, from.right.a);
                    to.right.a.setWhole(0);
                    break;
                case 2:
                    to.left.b.setWhole(0);
                    to.right.b.setDifference(from.right.b, from.left.b);
                    break;
                case 3:
                    divide(from, to);
                    break;
                default:
                    break;
            }
            return to.fits() ? kind : -1;
        }

        private static int kindFor(Line line) {
            if (!line.right.a.isZero()) {
                return 1;
            }
            if (!line.left.b.isZero()) {
                return 2;
            }
            return line.left.a.isZero() || line.left.a.isWhole(1) ? 0 : 3;
        }

        private static void divide(Line from, Line to) {
            to.left.a.setWhole(1);
            to.right.b.setQuotient(from.right.b, from.left.a);
            if (from.left.a.above < 0) {
                to.turnRelation();
            }
        }
    }

    /** The common slips. */
    private static final class Slips {
        private static final int KINDS = 6;

        /** The lowest slip that leads from the one line to the other; 0 without any. */
        static int explain(Line from, Line written, Line scratch) {
            for (int slip = 1; slip <= KINDS; slip++) {
                if (isPossible(slip, from)) {
                    write(slip, from, scratch);
                    // One that is too large is never the same as a line that was read.
                    if (scratch.sameAs(written)) {
                        return slip;
                    }
                }
            }
            return 0;
        }

        private static boolean isPossible(int slip, Line line) {
            Side left = line.left;
            boolean divisible = !left.a.isZero() && !left.a.isWhole(1);
            switch (slip) {
                case 1:
                    return !line.right.a.isZero();
                case 2:
                    return !left.b.isZero();
                case 3:
                    return divisible;
                case 4:
                    return divisible && !left.b.isZero();
                case 5:
                    return line.relation != Line.EQUAL;
                case 6:
                    return divisible && left.b.isZero() && line.right.a.isZero();
                default:
                    return false;
            }
        }

        private static void write(int slip, Line from, Line to) {
            Side left = from.left;
            Side right = from.right;
            to.copy(from);
            switch (slip) {
                case 1:
                    to.left.a.setSum(left.a, right.a);
                    to.right.a.setWhole(0);
                    break;
                case 2:
                    to.left.b.setWhole(0);
                    to.right.b.setSum(left.b, right.b);
                    break;
                case 3:
                    to.left.a.setWhole(1);
                    to.left.b.setQuotient(left.b, left.a);
                    break;
                case 4:
                    to.left.a.setWhole(1);
                    to.right.divide(left.a);
                    break;
                case 5:
                    to.left.turnToOpposite();
                    to.right.turnToOpposite();
                    break;
                case 6:
                    to.left.a.setWhole(1);
                    to.right.b.setDifference(right.b, left.a);
                    break;
                default:
                    break;
            }
        }
    }

    /** What was printed latest. */
    private static final class Paper {
        private final StringBuilder bytes = new StringBuilder();

        int size() {
            return bytes.length();
        }

        int byteAt(int i) {
            return i >= 0 && i < bytes.length() ? bytes.charAt(i) : -1;
        }

        void write(Line line) {
            bytes.setLength(0);
            writeSide(line.left);
            switch (line.relation) {
                case Line.LESS:
                    bytes.append(" < ");
                    break;
                case Line.GREATER:
                    bytes.append(" > ");
                    break;
                default:
                    bytes.append(" = ");
                    break;
            }
            writeSide(line.right);
        }

        private void writeSide(Side side) {
            if (side.a.isZero()) {
                if (side.b.above < 0) {
                    bytes.append('-');
                }
                writeSize(side.b);
                return;
            }
            writeTimesX(side.a);
            if (!side.b.isZero()) {
                bytes.append(side.b.above < 0 ? " - " : " + ");
                writeSize(side.b);
            }
        }

        private void writeTimesX(Fraction a) {
            if (a.above < 0) {
                bytes.append('-');
            }
            if (!a.isWhole(1) && !a.isWhole(-1)) {
                writeSize(a);
            }
            bytes.append('x');
        }

        private void writeSize(Fraction fraction) {
            bytes.append((int) (fraction.above < 0 ? -fraction.above : fraction.above));
            if (fraction.below != 1) {
                bytes.append('/');
                bytes.append((int) fraction.below);
            }
        }
    }
}
