/** The edges that the document names for promises 1 and 2: an object without a task, and places of the text. */
public final class EdgesOfPutTest {
    public static void main(String[] args) {
        noTask();
        noTaskAfterFaults();
        everyPlace();
        bytesBehindTheEnd();
        everyByteOfV();
        noSuchPlace();
        Check.finish();
    }

    private static void noTask() {
        Check.sentence(1, "No task.");
        Desk desk = new Desk();
        Check.same("state of a new object", desk.state(),
                "0 0 0 0; 0 0 0; slip 0; witness IllegalStateException; printed \"\"");
        Check.refusesState("step", () -> desk.tutor.step(80));
        Check.refusesState("hint", desk.tutor::hint);
        Check.refusesState("take", desk.tutor::take);
        Check.refusesState("undo", desk.tutor::undo);
        Check.refusesState("line", () -> desk.tutor.line(8));
        Check.refusesState("solutions", () -> desk.tutor.solutions(2));
        Check.refusesState("print", desk.tutor::print);
        Check.same("state after what was refused", desk.state(), new Desk().state());
    }

    private static void noTaskAfterFaults() {
        Check.sentence(1, "No task.");
        Desk desk = new Desk();
        Check.same("begin without a line", desk.begin("x="), -3);
        desk.put("x=1");
        Check.refusesState("step, as no task has begun", () -> desk.tutor.step(3));
        Check.refusesState("hint, as no task has begun", desk.tutor::hint);
        Check.same("lines", desk.tutor.count(0), 0);
    }

    /** A text of 80 blanks. */
    private static Desk blank() {
        Desk desk = new Desk();
        desk.put(" ".repeat(80));
        return desk;
    }

    private static int four(String bytes) {
        return bytes.charAt(0) | bytes.charAt(1) << 8 | bytes.charAt(2) << 16 | bytes.charAt(3) << 24;
    }

    private static void everyPlace() {
        Check.sentence(2, "Bytes i .. i + 3 of the text, 0 .. 79, are those of v, the lowest first");
        for (int i = 0; i <= 76; i++) {
            Desk desk = blank();
            desk.tutor.put(i, four("x<78"));
            Check.same("begin, four bytes put at " + i, desk.tutor.begin(80), 0);
            Check.same("line, four bytes put at " + i, desk.parts(), "1/1 0/1 0/1 78/1 <");
            Check.same("begin of what ends ahead of the last", desk.tutor.begin(i + 3), 0);
            Check.same("begin of what ends ahead of the last two", desk.tutor.begin(i + 2), -1 - (i + 2));
        }
    }

    private static void bytesBehindTheEnd() {
        Check.sentence(2, "(those behind 79 are left out)");
        Desk last = blank();
        last.tutor.put(77, four("x>7y"));
        Check.same("begin, put at 77", last.tutor.begin(80), 0);
        Check.same("line, put at 77", last.parts(), "1/1 0/1 0/1 7/1 >");
        String digits = "5yyy";
        for (int i = 77; i <= 79; i++) {
            Desk desk = blank();
            desk.tutor.put(0, four("x=1 "));
            desk.tutor.put(i, four(" ".repeat(79 - i) + digits.substring(0, 4 - (79 - i))));
            Check.same("begin, put at " + i, desk.tutor.begin(80), 0);
            Check.same("line, put at " + i, desk.parts(), "1/1 0/1 0/1 15/1 =");
        }
    }

    private static void everyByteOfV() {
        Check.sentence(2, "are those of v, the lowest first");
        for (int k = 0; k < 4; k++) {
            for (int value : new int[] {0, 31, 33, 127, 128, 255}) {
                Desk desk = new Desk();
                desk.tutor.put(0, four("    ") ^ (32 ^ value) << (8 * k));
                Check.same("begin with byte " + value + " at " + k, desk.tutor.begin(4), -1 - k);
            }
        }
        Desk desk = new Desk();
        for (int v : new int[] {-1, Integer.MIN_VALUE, Integer.MAX_VALUE, 0}) {
            desk.tutor.put(0, v);
            Check.same("begin with " + v, desk.tutor.begin(4), -1);
        }
        desk.put("x=1");
        desk.tutor.put(3, -1);
        Check.same("begin of what stands ahead of bytes 255", desk.tutor.begin(3), 0);
    }

    private static void noSuchPlace() {
        Check.sentence(2, "IllegalArgumentException: there is no such place");
        Desk desk = Desk.with("x=1" + " ".repeat(77));
        for (int i : new int[] {-1, -2, -3, -4, 80, 81, 84, 256, Integer.MIN_VALUE, Integer.MAX_VALUE,
            Integer.MAX_VALUE - 3}) {
            Check.refusesArgument("put at " + i, () -> desk.tutor.put(i, four("yyyy")));
        }
        Check.same("begin, as nothing was put", desk.tutor.begin(80), 0);
        Check.same("line, as nothing was put", desk.parts(), "1/1 0/1 0/1 1/1 =");
        Check.same("put at 0", Check.thrownBy(() -> desk.tutor.put(0, four("x>2 "))), "nothing");
        Check.same("put at 79", Check.thrownBy(() -> desk.tutor.put(79, '3')), "nothing");
        Check.same("begin with both", desk.tutor.begin(80), 0);
        Check.same("line with both", desk.parts(), "1/1 0/1 0/1 23/1 >");
    }
}
