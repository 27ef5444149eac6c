/** Nights that the tests begin with; each call makes a new one. */
final class Nights {
    private static final int LEFT = 2;

    private Nights() {
    }

    /** 0 left, rank 1, pitch 5, in 0-50, knows; 1 right, rank 2, pitch 9, in 10-20; 2 left, rank 1, pitch 0, in 0-100. */
    static Kelirnight cycle() {
        Kelirnight night = new Kelirnight();
        night.person(0, 1, 5, 0, 50, true);
        night.person(1, 2, 9, 10, 20, false);
        night.person(0, 1, 0, 0, 100, false);
        return night;
    }

    /** Figures: 0 of person 0, 1 of 1 (right), 2 of 0, 3 of 2; a calm scene of persons 0 and 1 for 90 minutes. */
    static Kelirnight troupe() {
        Kelirnight night = cycle();
        night.figure(0, 40);
        night.figure(1, 60);
        night.figure(0, 25);
        night.figure(2, 90);
        night.scene(15, 0, 3, 90, -1, -1);
        return night;
    }

    /** The cycle in a scene of 90 minutes, whose piece has begun. */
    static Kelirnight playing(int mood) {
        Kelirnight night = cycle();
        night.scene(15, mood, 7, 90, -1, -1);
        night.tap(0);
        return night;
    }

    /** Persons of the years 0 to 100, of the left, the right and so on; the first one alone knows the secret. */
    static Kelirnight crowd(int persons) {
        Kelirnight night = new Kelirnight();
        for (int k = 0; k < persons; k++) {
            night.person(k % 2, k % 4, k, 0, 100, k == 0);
        }
        return night;
    }

    /** Two persons, 0 left and 1 right, each with as many figures of the height 40, by turns. */
    static Kelirnight pairs(int figures) {
        Kelirnight night = crowd(2);
        for (int k = 0; k < figures; k++) {
            night.figure(k % 2, 40);
        }
        return night;
    }

    /** A crowd of three, and calm scenes of person 0 in the year 50, one for each length. */
    static Kelirnight row(int... lengths) {
        Kelirnight night = crowd(3);
        for (int length : lengths) {
            night.scene(50, 0, 1, length, -1, -1);
        }
        return night;
    }

    /** A crowd of three, and calm scenes of 5 to 90 minutes that are over at this minute. */
    static Kelirnight fullUpTo(int minute) {
        Kelirnight night = crowd(3);
        int left = minute;
        while (left > 0) {
            int length = left > 90 && left < 95 ? 85 : Math.min(left, 90);
            night.scene(50, 0, 1, length, -1, -1);
            left -= length;
        }
        return night;
    }

    static Kelirnight passAll(Kelirnight night, int minutes) {
        int left = minutes;
        while (left > 0) {
            int now = Math.min(left, 99);
            night.pass(now);
            left -= now;
        }
        return night;
    }

    /** Brings a figure from its box to a place; it stays in the last hand that it needs for this. */
    static void bring(Kelirnight night, int figure, int place) {
        boolean left = night.grip(figure) == LEFT;
        if (left && place > 5) {
            night.move(figure, 5);
            night.hand(figure);
        } else if (!left && place < 4) {
            night.move(figure, 4);
            night.hand(figure);
        }
        if (night.ofFigure(figure, 4) != place) {
            night.move(figure, place);
        }
    }

    static void stand(Kelirnight night, int figure, int place) {
        bring(night, figure, place);
        night.plant(figure);
    }

    /** Figure 0 in the left hand at the place 0, worn by as many places that it went. */
    static Kelirnight worn(int wear) {
        Kelirnight night = pairs(2);
        night.grip(0);
        int left = wear;
        int place = 0;
        while (left > 0) {
            int way = Math.min(left, 5);
            int next = place >= way ? place - way : Math.min(5, place + way);
            left -= Math.abs(next - place);
            place = next;
            night.move(0, place);
        }
        return night;
    }

    /** Persons 0 (pitch 0) and 1 (pitch 9), each with a figure at its edge; as tired as said (0 to 80), person 0 spoke last. */
    static Kelirnight tired(int tired) {
        Kelirnight night = new Kelirnight();
        night.person(0, 1, 0, 0, 100, true);
        night.person(1, 1, 9, 0, 100, false);
        night.figure(0, 40);
        night.figure(1, 40);
        night.grip(0);
        night.grip(1);
        night.speak(0, 1, 9, 0);
        night.speak(1, 0, 9, 0);
        night.speak(0, 1, 9, 0);
        while (night.many(9) < 80) {
            night.speak(0, 1, 1, 0);
        }
        return tired < 80 ? passAll(night, 80 - tired) : night;
    }

    /**
     * The troupe in the minute 8 of three scenes: 0 stands at 2, 1 is in the right hand, 3 in the left one, both
     * lifted; a tap waits, the lamp sways, one is tired, and there are a missed tap, a slip and an offence.
     */
    static Kelirnight amid() {
        Kelirnight night = troupe();
        night.scene(20, 1, 7, 40, 1, 1);
        night.scene(20, 2, 6, 40, -1, 2);
        night.lamp(33, 7);
        stand(night, 0, 2);
        night.grip(1);
        night.lift(1, 4);
        night.grip(3);
        night.move(3, 3);
        night.lift(3, 9);
        night.tap(3);
        night.tap(0);
        night.speak(1, 0, 7, 0);
        night.joke(9);
        night.joke(9);
        night.joke(9);
        night.pass(1);
        night.tap(1);
        return night;
    }
}
