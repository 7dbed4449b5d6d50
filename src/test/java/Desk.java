/** A tutor to whom texts can be handed in as they are written. */
final class Desk {
    final TutorLines tutor = new TutorLines();

    /** A desk at which a task has begun. */
    static Desk with(String line) {
        Desk desk = new Desk();
        Check.same("begin \"" + line + "\"", desk.begin(line), 0);
        return desk;
    }

    void put(String text) {
        for (int i = 0; i < text.length(); i += 4) {
            int v = 0;
            for (int k = 0; k < 4 && i + k < text.length(); k++) {
                v |= (text.charAt(i + k) & 255) << (8 * k);
            }
            tutor.put(i, v);
        }
    }

    int begin(String text) {
        put(text);
        return tutor.begin(text.length());
    }

    int step(String text) {
        put(text);
        return tutor.step(text.length());
    }

    /** The present line as it is printed. */
    String print() {
        int size = tutor.print();
        StringBuilder all = new StringBuilder();
        for (int i = 0; i < size; i++) {
            all.append((char) tutor.printed(i));
        }
        return all.toString();
    }

    /** The present line by its parts. */
    String parts() {
        StringBuilder all = new StringBuilder();
        for (int what = 0; what < 8; what += 2) {
            all.append(tutor.line(what)).append('/').append(tutor.line(what + 1)).append(' ');
        }
        return all.append("=<>".charAt(tutor.line(8))).toString();
    }

    String solutions() {
        return tutor.solutions(0) + " " + tutor.solutions(1) + "/" + tutor.solutions(2);
    }

    String witness() {
        return tutor.witness(0) + "/" + tutor.witness(1);
    }

    String points() {
        return tutor.points(1) + " " + tutor.points(2) + " " + tutor.points(3);
    }

    String counts() {
        return tutor.count(0) + " " + tutor.count(1) + " " + tutor.count(2) + " " + tutor.count(3);
    }
}
