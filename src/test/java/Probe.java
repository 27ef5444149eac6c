import java.util.ArrayList;
import java.util.List;
import java.util.function.LongSupplier;

/**
 * Goes on with a night by one fixed run of calls and keeps what they answer. Two nights that answer alike are alike
 * in what no question tells, too: the sway, who spoke last, the ranks, pitches, sides and years of the persons.
 */
final class Probe {
    private final Kelirnight night;
    private final List<String> answers = new ArrayList<>();

    private Probe(Kelirnight night) {
        this.night = night;
    }

    static List<String> of(Kelirnight night) {
        Probe probe = new Probe(night);
        probe.note("digest", night::digest);
        probe.note("meanShadow", () -> Double.doubleToLongBits(night.meanShadow()));
        probe.screen();
        probe.speeches();
        probe.orchestra();
        probe.host();
        probe.plot();
        probe.note("digest", night::digest);
        return probe.answers;
    }

    private void note(String what, LongSupplier call) {
        String answer;
        try {
            answer = String.valueOf(call.getAsLong());
        } catch (RuntimeException e) {
            answer = e.getClass().getSimpleName();
        }
        answers.add(what + " answers " + answer);
    }

    private void screen() {
        int persons = night.many(1);
        for (int k = 0; k < persons; k++) {
            int person = k;
            note("figure of " + k, () -> night.figure(person, 50));
        }
        int figures = night.many(2);
        for (int k = 0; k < figures; k++) {
            showFigure(k);
        }
        note("digest with figures shown", night::digest);
    }

    private void showFigure(int figure) {
        note("grip " + figure, () -> night.grip(figure));
        note("lift " + figure, () -> night.lift(figure, 15));
        note("blur " + figure, () -> night.ofFigure(figure, 7));
        note("move " + figure, () -> night.move(figure, 1 + figure % 4));
        note("move " + figure, () -> night.move(figure, 8 - figure % 4));
        note("plant " + figure, () -> night.plant(figure));
        note("liftFor " + figure, () -> night.liftFor(figure, 60));
    }

    private void speeches() {
        int persons = night.many(1);
        for (int k = 0; k < persons; k++) {
            int person = k;
            int other = (k + 1) % persons;
            if (night.many(9) >= 80) {
                note("pass", () -> night.pass(21));
            }
            note("speak, 3 minutes, " + k, () -> night.speak(person, other, 3, 1));
            note("speak, 1 minute, " + k, () -> night.speak(person, other, 1, 0));
            note("slips", () -> night.many(12));
        }
    }

    private void orchestra() {
        note("tap 1", () -> night.tap(1) ? 1 : 0);
        note("pass", () -> night.pass(5));
        note("tap 0", () -> night.tap(0) ? 1 : 0);
        note("pass", () -> night.pass(1));
        note("beat", () -> night.sound(2));
        note("speed", () -> night.sound(1));
    }

    private void host() {
        note("lamp", () -> night.lamp(50, 0));
        note("joke", () -> night.joke(9));
        note("offer", night::offer);
    }

    private void plot() {
        int everybody = (1 << night.many(1)) - 1;
        for (int year = 0; year <= 100; year += 10) {
            int now = year;
            note("scene of all in " + year, () -> night.scene(now, 0, everybody, 5, -1, -1));
        }
        note("length", () -> night.length(0, 77));
        note("person", () -> night.person(1, 3, 9, 99, 100, true));
        note("swap", () -> night.swap(0, 1));
    }
}
