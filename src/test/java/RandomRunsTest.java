import java.util.ArrayList;
import java.util.List;
import java.util.Random;

/** Long random runs, always the same ones, answered by the tutor and by the model. */
public final class RandomRunsTest {
    private static final int RUNS = 8000;
    // An object is used for at most 512 calls.
    private static final int MOST_CALLS = 512;
    private static final int MOST_CALLS_A_ROUND = 21 + 4 + 3 + 1 + 2 + 1 + 9 + 3 + 50;

    private final Random random;
    private final Desk desk = new Desk();
    private final Model model = new Model();
    private final StringBuilder told = new StringBuilder();
    private String lastText = "";

    private RandomRunsTest(long seed) {
        random = new Random(seed);
    }

    public static void main(String[] args) {
        int[] seen = new int[16];
        for (int run = 0; run < RUNS; run++) {
            new RandomRunsTest(run).run(seen);
        }
        // Runs that never come to what they should compare would prove nothing.
        for (int kind = 0; kind < seen.length; kind++) {
            Check.same("kind " + kind + " of answers was seen often: " + seen[kind], seen[kind] > 100, true);
        }
        Check.finish();
    }

    private void run(int[] seen) {
        for (int calls = 0; calls <= MOST_CALLS - MOST_CALLS_A_ROUND; calls += callsOfLastRound()) {
            act(seen);
            compare();
        }
    }

    /** At least as many as there were. */
    private int callsOfLastRound() {
        return MOST_CALLS_A_ROUND - 50 - 21 + (lastText.length() + 3) / 4 + 1 + model.printed.length() + 1;
    }

    private void act(int[] seen) {
        lastText = "";
        int choice = random.nextInt(20);
        if (model.rows.isEmpty() || choice == 0) {
            String text = anyText();
            lastText = text;
            told.append(" begin \"").append(text).append('"');
            int due = model.begin(text);
            seen[due == 0 ? 0 : 1]++;
            same("begin", desk.begin(text), due);
        } else if (choice == 1) {
            told.append(" undo");
            boolean due = model.undo();
            seen[due ? 2 : 3]++;
            same("undo", desk.tutor.undo() ? 1 : 0, due ? 1 : 0);
        } else if (model.rows.size() == 40) {
            Check.refusesState("step at 40 lines", () -> desk.tutor.step(3));
        } else if (choice <= 4) {
            told.append(" take");
            boolean due = model.take();
            seen[due ? 4 : 5]++;
            same("take", desk.tutor.take() ? 1 : 0, due ? 1 : 0);
        } else {
            String text = aStep();
            lastText = text;
            told.append(" step \"").append(text).append('"');
            int due = model.step(text);
            seen[due < 0 ? 6 : 7 + due]++;
            if (due == 0 || due == 2) {
                seen[10 + Math.min(model.slip, 5)]++;
            }
            same("step", desk.step(text), due);
        }
    }

    private void same(String what, long got, long due) {
        Check.same(got == due ? what : what + " at the end of" + told, got, due);
    }

    private void same(String what, String got, String due) {
        Check.same(got.equals(due) ? what : what + " at the end of" + told, got, due);
    }

    private void compare() {
        same("counts", desk.counts(),
                model.rows.size() + " " + model.answers[1] + " " + model.answers[0] + " " + model.answers[2]);
        same("points", desk.points(), model.points[1] + " " + model.points[2] + " " + model.points[3]);
        same("slip", desk.tutor.slip(), model.refused == null ? 0 : model.slip);
        if (model.refused == null) {
            same("witness", Check.thrownBy(() -> desk.tutor.witness(0)), "IllegalStateException");
        } else {
            same("witness", desk.witness(), model.witness().above() + "/" + model.witness().below());
        }
        if (model.rows.isEmpty()) {
            same("hint", Check.thrownBy(desk.tutor::hint), "IllegalStateException");
            return;
        }
        Model.Row row = model.present();
        same("hint", desk.tutor.hint(), model.hint());
        same("parts", desk.parts(), parts(row.left()) + parts(row.right()) + row.relation());
        Model.Frac place = row.place() == null ? Model.Frac.ZERO : row.place();
        same("solutions", desk.solutions(), row.kind() + " " + place.above() + "/" + place.below());
        same("print", desk.print(), model.print());
    }

    private static String parts(Model.Half half) {
        return half.a().above() + "/" + half.a().below() + " " + half.b().above() + "/" + half.b().below() + " ";
    }

    /** One that goes by the plan, by a slip, by another form of the line, or any text. */
    private String aStep() {
        Model.Row present = model.present();
        List<Model.Row> rows = new ArrayList<>();
        int kind = Model.kindOfPlan(present);
        if (kind > 0) {
            rows.add(Model.planned(present, kind));
        }
        rows.addAll(Model.slips(present));
        rows.add(new Model.Row(present.right(), "=><".charAt("=<>".indexOf(present.relation())), present.left()));
        rows.add(new Model.Row(present.left(), "=<>".charAt(random.nextInt(3)), present.right()));
        rows.add(shifted(present));
        rows.add(scaled(present));
        Model.Row chosen = random.nextInt(4) == 0 ? null : rows.get(random.nextInt(rows.size()));
        if (chosen == null || chosen.text().length() > 80) {
            return anyText();
        }
        return random.nextInt(20) == 0 ? spoilt(chosen.text()) : chosen.text();
    }

    private Model.Row shifted(Model.Row row) {
        Model.Half more = new Model.Half(Model.Frac.of(random.nextInt(5) - 2), Model.Frac.of(random.nextInt(5) - 2));
        Model.Half other = random.nextInt(3) > 0 ? more : new Model.Half(more.a(), more.b().plus(Model.Frac.ONE));
        return new Model.Row(row.left().plus(more), row.relation(), row.right().plus(other));
    }

    private Model.Row scaled(Model.Row row) {
        Model.Frac divisor = Model.Frac.of(1 + random.nextInt(4));
        return new Model.Row(row.left().over(divisor), row.relation(), row.right().over(divisor));
    }

    private String anyText() {
        String text;
        switch (random.nextInt(6)) {
            case 0:
                text = simple();
                break;
            case 1:
                text = large() + "*x+" + large() + relation() + large() + "*x-" + large();
                break;
            default:
                text = side(2) + relation() + side(2);
                break;
        }
        if (random.nextInt(5) == 0) {
            text = spoilt(text);
        }
        return text.substring(0, Math.min(80, text.length()));
    }

    private String simple() {
        String[] factors = {"", "-", "2*", "-3*", "1/2*", "-2/3*", "0*"};
        return factors[random.nextInt(factors.length)] + "x" + relation() + random.nextInt(7);
    }

    private String large() {
        return (9990 + random.nextInt(10)) + "/" + (9990 + random.nextInt(10));
    }

    private String relation() {
        return String.valueOf("=<>".charAt(random.nextInt(3)));
    }

    private String side(int depth) {
        StringBuilder all = new StringBuilder(random.nextInt(4) == 0 ? "-" : "");
        int terms = 1 + random.nextInt(3);
        for (int n = 0; n < terms; n++) {
            all.append(n == 0 ? "" : random.nextBoolean() ? "+" : "-").append(term(depth));
        }
        return all.toString();
    }

    private String term(int depth) {
        StringBuilder all = new StringBuilder(factor(depth));
        while (random.nextInt(3) == 0) {
            all.append(random.nextBoolean() ? "*" + factor(depth) : "/" + number());
        }
        return all.toString();
    }

    private String factor(int depth) {
        int choice = random.nextInt(depth > 0 ? 7 : 5);
        if (choice >= 5) {
            int more = random.nextInt(40) == 0 ? random.nextInt(9) : 0;
            return "(".repeat(1 + more) + side(depth - 1) + ")".repeat(1 + more);
        }
        return choice < 2 ? "x" : number();
    }

    private String number() {
        switch (random.nextInt(12)) {
            case 0:
                return String.valueOf(random.nextInt(10000));
            case 1:
                return String.valueOf(random.nextInt(200));
            case 2:
                return random.nextInt(5) == 0 ? String.valueOf(random.nextInt(100000)) : "00" + random.nextInt(3);
            default:
                return String.valueOf(1 + random.nextInt(9));
        }
    }

    private String spoilt(String text) {
        StringBuilder all = new StringBuilder(text);
        int times = 1 + random.nextInt(3);
        for (int n = 0; n < times; n++) {
            int at = random.nextInt(all.length() + 1);
            char c = "x0123456789+-*/()=<>   y\0\377".charAt(random.nextInt(26));
            int choice = random.nextInt(4);
            if (choice == 0 && at < all.length()) {
                all.setCharAt(at, c);
            } else if (choice == 1 && at < all.length()) {
                all.deleteCharAt(at);
            } else if (choice == 2) {
                all.insert(at, ' ');
            } else {
                all.insert(at, c);
            }
        }
        return all.substring(0, Math.min(80, all.length()));
    }
}
