/** Promise 2: put. */
public final class PutTest {
    public static void main(String[] args) {
        lowestByteIsFirst();
        bytesBehindTheTextAreLeftOut();
        bytesStay();
        allBytesAreSeen();
        wrongPlaces();
        Check.finish();
    }

    private static void lowestByteIsFirst() {
        TutorLines tutor = new TutorLines();
        tutor.put(0, 'x' | '<' << 8 | '7' << 16 | '8' << 24);
        Check.same("begin", tutor.begin(4), 0);
        Check.same("relation", tutor.line(8), 1);
        Check.same("right side", tutor.line(6), 78);
        tutor.put(1, '>' | '1' << 8 | '2' << 16 | '3' << 24);
        Check.same("begin at an odd place", tutor.begin(5), 0);
        Check.same("relation at an odd place", tutor.line(8), 2);
        Check.same("right side at an odd place", tutor.line(6), 123);
    }

    private static void bytesBehindTheTextAreLeftOut() {
        for (int place = 76; place < 80; place++) {
            Desk desk = new Desk();
            desk.put("x=1" + " ".repeat(77));
            int digits = '2' | '3' << 8 | '4' << 16 | '5' << 24;
            desk.tutor.put(place, digits);
            int kept = 80 - place;
            Check.same("begin, put at " + place, desk.tutor.begin(80), kept == 4 ? -1 - 79 : 0);
            if (kept < 4) {
                Check.same("right side, put at " + place, desk.tutor.line(6),
                        Integer.parseInt("12345".substring(0, 1 + kept)));
            }
            Check.same("first bytes, put at " + place, desk.tutor.begin(3), 0);
        }
    }

    private static void bytesStay() {
        Desk desk = Desk.with("x=12+3");
        desk.tutor.put(2, '9' | '9' << 8 | '-' << 16 | '4' << 24);
        Check.same("begin", desk.tutor.begin(6), 0);
        Check.same("right side", desk.tutor.line(6), 95);
        Check.same("begin with fewer", desk.tutor.begin(4), 0);
        Check.same("right side of fewer", desk.tutor.line(6), 99);
        desk.put("x=12345");
        desk.tutor.put(0, '7' | '=' << 8 | 'x' << 16 | '+' << 24);
        Check.same("begin with what is behind four bytes", desk.tutor.begin(7), 0);
        Check.same("present line", desk.parts(), "0/1 7/1 1/1 345/1 =");
    }

    private static void allBytesAreSeen() {
        for (int value = 0; value < 256; value++) {
            TutorLines tutor = new TutorLines();
            boolean goesOn = value == ' ' || value >= '0' && value <= '9';
            tutor.put(0, 'x' | '=' << 8 | '1' << 16 | value << 24);
            int due = goesOn ? 0 : "+-*/".indexOf(value) >= 0 ? -1 - 4 : -1 - 3;
            Check.same("begin with byte " + value, tutor.begin(4), due);
        }
        TutorLines tutor = new TutorLines();
        tutor.put(0, -1);
        Check.same("begin with bytes 255", tutor.begin(4), -1);
    }

    private static void wrongPlaces() {
        TutorLines tutor = new TutorLines();
        for (int place : new int[] {-1, -4, 80, 81, Integer.MIN_VALUE, Integer.MAX_VALUE}) {
            Check.refusesArgument("put at " + place, () -> tutor.put(place, 0));
        }
        Check.same("put at 0", Check.thrownBy(() -> tutor.put(0, 0)), "nothing");
        Check.same("put at 79", Check.thrownBy(() -> tutor.put(79, 0)), "nothing");
    }
}
