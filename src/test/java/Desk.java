/** A tutor to whom texts can be handed in as they are written. */
final class Desk {
    final TutorLines tutor = new TutorLines();

    /** A desk at which a task has begun. */
    static Desk with(String line) {
        Desk desk = new Desk();
        Check.same("begin \"" + line + "\"", desk.begin(line), 0);
        return desk;
    }

    void put(String text) {
        for (int i = 0; i < text.length(); i += 4) {
            int v = 0;
            for (int k = 0; k < 4 && i + k < text.length(); k++) {
                v |= (text.charAt(i + k) & 255) << (8 * k);
            }
            tutor.put(i, v);
        }
    }

    int begin(String text) {
        put(text);
        return tutor.begin(text.length());
    }

    int step(String text) {
        put(text);
        return tutor.step(text.length());
    }

    /** The present line as it is printed. */
    String print() {
        int size = tutor.print();
        StringBuilder all = new StringBuilder();
        for (int i = 0; i < size; i++) {
            all.append((char) tutor.printed(i));
        }
        return all.toString();
    }

    /** The present line by its parts. */
    String parts() {
        StringBuilder all = new StringBuilder();
        for (int what = 0; what < 8; what += 2) {
            all.append(tutor.line(what)).append('/').append(tutor.line(what + 1)).append(' ');
        }
        return all.append("=<>".charAt(tutor.line(8))).toString();
    }

    String solutions() {
        return tutor.solutions(0) + " " + tutor.solutions(1) + "/" + tutor.solutions(2);
    }

    String witness() {
        return tutor.witness(0) + "/" + tutor.witness(1);
    }

    String points() {
        return tutor.points(1) + " " + tutor.points(2) + " " + tutor.points(3);
    }

    String counts() {
        return tutor.count(0) + " " + tutor.count(1) + " " + tutor.count(2) + " " + tutor.count(3);
    }

    /** All that can be told without a change: what a call that does nothing must leave. */
    String state() {
        StringBuilder all = new StringBuilder(counts()).append("; ").append(points());
        all.append("; slip ").append(tutor.slip()).append("; witness ").append(witnessOrRefusal());
        all.append("; printed \"").append(printed()).append('"');
        if (tutor.count(0) > 0) {
            all.append("; ").append(parts()).append("; ").append(solutions()).append("; hint ").append(tutor.hint());
        }
        return all.toString();
    }

    private String witnessOrRefusal() {
        String thrown = Check.thrownBy(() -> tutor.witness(0));
        return thrown.equals("nothing") ? witness() : thrown;
    }

    /** What was printed latest. */
    private String printed() {
        StringBuilder all = new StringBuilder();
        for (int i = 0; i < 100 && tutor.printed(i) >= 0; i++) {
            all.append((char) tutor.printed(i));
        }
        return all.toString();
    }

    /** Goes on with steps that are the present line again, up to so many lines. */
    void fill(String line, int lines) {
        put(line);
        for (int n = tutor.count(0) + 1; n <= lines; n++) {
            Check.same("step \"" + line + "\" to line " + n, tutor.step(line.length()), 1);
        }
    }
}
