/** Section 3 of the document, THE SCREEN: the edges that each of its sentences names. */
public final class ScreenEdgesTest {
    private static final Class<IllegalArgumentException> ARGUMENT = IllegalArgumentException.class;
    private static final Class<IllegalStateException> STATE = IllegalStateException.class;

    private static final int WEAR = 2;
    private static final int WHERE = 3;
    private static final int PLACE = 4;
    private static final int LIFTED = 5;
    private static final int SHADOW = 6;
    private static final int BLUR = 7;

    public static void main(String[] args) {
        gripPlantedByAReachingHand();
        gripPlantedByTheFreeHand();
        gripPlantedByTheLeftOneOfBoth();
        gripFromTheBoxByTheHandOfItsSide();
        gripFromTheBoxAtTheEdge();
        gripFromTheBoxNeedsAFreeEdge();
        gripWhatIsInAHand();
        moveInReach();
        moveToAFreePlace();
        moveWearsByPlaces();
        plantStays();
        plantFreesTheHand();
        handOverToAFreeHand();
        handOverWithinReach();
        awayFromTheEdgeOfItsSide();
        lampAtFirst();
        distance();
        sway();
        lifted();
        liftedAsItIsGripped();
        plantedAndBoxedAreNotLifted();
        shadow();
        blur();
        blurAndWear();
        Check.end();
    }

    private static Kelirnight planted(int place) {
        Kelirnight night = Nights.pairs(6);
        Nights.stand(night, 0, place);
        return night;
    }

    /** Figure 0 stands at that place, and others are in the hands as said: 1 the left one, 2 the right one, 3 both. */
    private static Kelirnight plantedAndHeld(int place, int hands) {
        Kelirnight night = Nights.pairs(6);
        if ((hands & 1) != 0) {
            Nights.stand(night, 2, place == 3 ? 2 : 3);
        }
        if ((hands & 2) != 0) {
            Nights.stand(night, 3, place == 6 ? 7 : 6);
        }
        Nights.stand(night, 0, place);
        if ((hands & 1) != 0) {
            night.grip(2);
        }
        if ((hands & 2) != 0) {
            night.grip(3);
        }
        return night;
    }

    private static void gripPlantedByAReachingHand() {
        Check.begin("'one that is PLANTED, where it is, by a free hand that reaches its PLACE'");
        for (int place = 0; place <= 9; place++) {
            Kelirnight night = planted(place);
            Check.same("hand at " + place, night.grip(0), place <= 5 ? 2 : 3);
            Check.same("where it is", night.ofFigure(0, WHERE), place <= 5 ? 2 : 3);
            Check.same("its place", night.ofFigure(0, PLACE), place);
        }
    }

    private static void gripPlantedByTheFreeHand() {
        Check.begin("'by a free hand', if the other one is full");
        for (int place = 0; place <= 9; place++) {
            int at = place;
            if (place >= 4) {
                Check.same("left full, at " + place, plantedAndHeld(place, 1).grip(0), 3);
            } else {
                Check.refusal("left full, at " + place, STATE, () -> plantedAndHeld(at, 1), night -> night.grip(0));
            }
            if (place <= 5) {
                Check.same("right full, at " + place, plantedAndHeld(place, 2).grip(0), 2);
            } else {
                Check.refusal("right full, at " + place, STATE, () -> plantedAndHeld(at, 2), night -> night.grip(0));
            }
            Check.refusal("both full, at " + place, STATE, () -> plantedAndHeld(at, 3), night -> night.grip(0));
        }
    }

    private static void gripPlantedByTheLeftOneOfBoth() {
        Check.begin("'(by the LEFT one, if both are free and do)'");
        for (int figure = 0; figure <= 1; figure++) {
            for (int place = 3; place <= 6; place++) {
                Kelirnight night = Nights.pairs(2);
                Nights.stand(night, figure, place);
                Check.same("figure " + figure + " at " + place, night.grip(figure), place <= 5 ? 2 : 3);
            }
        }
    }

    private static void gripFromTheBoxByTheHandOfItsSide() {
        Check.begin("'one from its BOX by the hand of its SIDE, that is to be free'");
        Check.same("left", Nights.pairs(2).grip(0), 2);
        Check.same("right", Nights.pairs(2).grip(1), 3);
        Check.refusal("left, the left one is full", STATE, () -> plantedAndHeld(5, 1), night -> night.grip(4));
        Check.same("left, the right one is full", plantedAndHeld(5, 2).grip(4), 2);
        Check.refusal("right, the right one is full", STATE, () -> plantedAndHeld(5, 2), night -> night.grip(5));
        Check.same("right, the left one is full", plantedAndHeld(5, 1).grip(5), 3);
        Check.refusal("left, both are full", STATE, () -> plantedAndHeld(5, 3), night -> night.grip(4));
        Check.refusal("right, both are full", STATE, () -> plantedAndHeld(5, 3), night -> night.grip(5));
    }

    private static void gripFromTheBoxAtTheEdge() {
        Check.begin("'it comes at the PLACE 0 (LEFT) or 9 (RIGHT)'");
        Kelirnight night = Nights.pairs(2);
        night.grip(0);
        Check.same("left", night.ofFigure(0, PLACE), 0);
        Check.same("at 0", night.at(0), 0);
        night.grip(1);
        Check.same("right", night.ofFigure(1, PLACE), 9);
        Check.same("at 9", night.at(9), 1);
        Check.same("at 1", night.at(1), -1);
        Check.same("at 8", night.at(8), -1);
    }

    private static void gripFromTheBoxNeedsAFreeEdge() {
        Check.begin("'that is to be free, too'");
        Check.refusal("left, one stands at 0", STATE, () -> planted(0), night -> night.grip(2));
        Check.taken("left, one stands at 1", () -> planted(1), night -> night.grip(2));
        Check.taken("left, one stands at 9", () -> planted(9), night -> night.grip(2));
        Check.refusal("right, one stands at 9", STATE, () -> planted(9), night -> night.grip(3));
        Check.taken("right, one stands at 8", () -> planted(8), night -> night.grip(3));
        Check.taken("right, one stands at 0", () -> planted(0), night -> night.grip(3));
    }

    private static void gripWhatIsInAHand() {
        Check.begin("'To GRIP a FIGURE': one that is in a hand can not be");
        for (int place = 0; place <= 9; place++) {
            int at = place;
            Check.refusal("left, held at " + place, STATE, () -> held(0, at), night -> night.grip(0));
            Check.refusal("right, held at " + place, STATE, () -> held(1, at), night -> night.grip(1));
        }
    }

    private static Kelirnight held(int figure, int place) {
        Kelirnight night = Nights.pairs(4);
        Nights.bring(night, figure, place);
        return night;
    }

    /** Figure 0 is brought to the place 4 or 5 into the right hand. */
    private static Kelirnight handedRight(int place) {
        Kelirnight night = held(0, place);
        night.hand(0);
        return night;
    }

    private static Kelirnight handedLeft(int place) {
        Kelirnight night = held(1, place);
        night.hand(1);
        return night;
    }

    private static void moveInReach() {
        Check.begin("'to a free PLACE that this hand reaches'");
        for (int from = 0; from <= 5; from++) {
            moveFrom(0, from, 0, 5);
        }
        for (int from = 4; from <= 9; from++) {
            moveFrom(1, from, 4, 9);
        }
        Check.refusal("of the left side, in the right hand", STATE, () -> handedRight(4), night -> night.move(0, 3));
        Check.taken("of the left side, in the right hand", () -> handedRight(4), night -> night.move(0, 9));
        Check.refusal("of the right side, in the left hand", STATE, () -> handedLeft(5), night -> night.move(1, 6));
        Check.taken("of the right side, in the left hand", () -> handedLeft(5), night -> night.move(1, 0));
    }

    private static void moveFrom(int figure, int from, int least, int most) {
        for (int place = 0; place <= 9; place++) {
            int to = place;
            String what = figure + " from " + from + " to " + place;
            if (place == from || place < least || place > most) {
                Check.refusal(what, STATE, () -> held(figure, from), night -> night.move(figure, to));
            } else {
                Kelirnight night = held(figure, from);
                night.move(figure, to);
                Check.same(what, night.ofFigure(figure, PLACE), place);
                Check.same(what + ", left behind", night.at(from), -1);
                Check.same(what + ", come", night.at(place), figure);
            }
        }
    }

    private static void moveToAFreePlace() {
        Check.begin("'to a free PLACE'");
        Check.refusal("one stands there", STATE, () -> plantedAndHeld(5, 1), night -> night.move(2, 5));
        Check.taken("past the one that stands there", () -> plantedAndHeld(4, 1), night -> night.move(2, 5));
        Check.refusal("the other hand's is there", STATE, () -> heldAt5And9(), night -> night.move(1, 5));
        Check.taken("beside the other hand's", () -> heldAt5And9(), night -> night.move(1, 4));
        Check.refusal("its own place", STATE, () -> held(0, 5), night -> night.move(0, 5));
    }

    private static Kelirnight heldAt5And9() {
        Kelirnight night = held(0, 5);
        night.grip(1);
        return night;
    }

    private static void moveWearsByPlaces() {
        Check.begin("'WEAR is 1 more for each PLACE that it goes'");
        for (int from = 0; from <= 5; from++) {
            for (int to = 0; to <= 5; to++) {
                if (from != to) {
                    Kelirnight night = held(0, from);
                    int due = from + Math.abs(to - from);
                    Check.same("from " + from + " to " + to, night.move(0, to), due);
                    Check.same("its wear", night.ofFigure(0, WEAR), due);
                }
            }
        }
        Check.same("not as it is handed over", handedRight(5).ofFigure(0, WEAR), 5);
        Check.same("not as it is planted", planted(5).ofFigure(0, WEAR), 5);
    }

    private static void plantStays() {
        Check.begin("'To PLANT it: it stays at its PLACE'");
        for (int place = 0; place <= 9; place++) {
            Kelirnight night = held(0, place);
            Check.same("planted at " + place, night.plant(0), place);
            Check.same("where it is", night.ofFigure(0, WHERE), 1);
            Check.same("its place", night.ofFigure(0, PLACE), place);
        }
    }

    private static void plantFreesTheHand() {
        Check.begin("'the hand is free'");
        Kelirnight left = held(0, 1);
        left.plant(0);
        Check.same("the left one", left.grip(2), 2);
        Kelirnight right = held(1, 8);
        right.plant(1);
        Check.same("the right one", right.grip(3), 3);
    }

    private static void handOverToAFreeHand() {
        Check.begin("'To HAND it over: to the other hand, that is to be free'");
        Check.same("to the right one", held(0, 5).hand(0), 3);
        Check.same("to the left one", held(1, 4).hand(1), 2);
        Check.refusal("the right one is full", STATE, () -> heldAt5And9(), night -> night.hand(0));
        Check.refusal("the left one is full", STATE, () -> heldAt0And4(), night -> night.hand(1));
        Kelirnight free = handedRight(5);
        Check.same("its own is free then", free.grip(2), 2);
    }

    private static Kelirnight heldAt0And4() {
        Kelirnight night = held(1, 4);
        night.grip(0);
        return night;
    }

    private static void handOverWithinReach() {
        Check.begin("'and to reach its PLACE'");
        for (int place = 0; place <= 5; place++) {
            int at = place;
            if (place >= 4) {
                Check.same("left at " + place, held(0, place).hand(0), 3);
            } else {
                Check.refusal("left at " + place, STATE, () -> held(0, at), night -> night.hand(0));
            }
        }
        for (int place = 4; place <= 9; place++) {
            int at = place;
            if (place <= 5) {
                Check.same("right at " + place, held(1, place).hand(1), 2);
            } else {
                Check.refusal("right at " + place, STATE, () -> held(1, at), night -> night.hand(1));
            }
        }
    }

    private static void awayFromTheEdgeOfItsSide() {
        Check.begin("'into its BOX, from the PLACE 0, if its SIDE is left, otherwise from 9'");
        for (int figure = 0; figure <= 1; figure++) {
            for (int place = 0; place <= 9; place++) {
                int one = figure;
                int at = place;
                if (place == 9 * figure) {
                    Kelirnight night = held(figure, place);
                    Check.same("left on the screen", night.away(figure), 0);
                    Check.same("in its box", night.ofFigure(figure, WHERE), 0);
                    Check.same("no place", night.ofFigure(figure, PLACE), -1);
                    Check.same("nothing is there", night.at(place), -1);
                    Check.same("its hand is free", night.grip(figure + 2), figure + 2);
                } else {
                    Check.refusal(figure + " from " + place, STATE, () -> held(one, at), night -> night.away(one));
                }
            }
        }
    }

    private static void lampAtFirst() {
        Check.begin("'a DISTANCE (.. 50 at first), and has a SWAY (.. 0 at first)'");
        Check.same("distance", new Kelirnight().lamp(80, 9), 50);
        Kelirnight night = held(0, 0);
        Check.same("shadow by 50", night.lift(0, 10), 50);
        Check.same("blur without sway", night.ofFigure(0, BLUR), 2);
    }

    private static void distance() {
        Check.begin("'a DISTANCE (20 to 80'");
        Check.range("distance", 20, 80, ARGUMENT, () -> held(0, 0), (night, distance) -> night.lamp(distance, 5));
        for (int distance = 20; distance <= 80; distance++) {
            Kelirnight night = held(0, 0);
            night.lamp(distance, 0);
            Check.same("told " + distance, night.lift(0, 15), 40 * distance / (distance - 15));
        }
    }

    private static void sway() {
        Check.begin("'a SWAY (0 to 9'");
        Check.range("sway", 0, 9, ARGUMENT, () -> held(0, 0), (night, sway) -> night.lamp(60, sway));
        int[] due = {3, 7, 11, 15, 18, 22, 26, 30, 33, 37};
        for (int sway = 0; sway <= 9; sway++) {
            Kelirnight night = held(0, 0);
            night.lift(0, 15);
            night.lamp(50, sway);
            Check.same("blur by " + sway, night.ofFigure(0, BLUR), due[sway]);
        }
    }

    private static void lifted() {
        Check.begin("'A FIGURE in a hand is LIFTED by 0 to 15'");
        Check.range("lifted", 0, 15, ARGUMENT, () -> held(0, 3), (night, lifted) -> night.lift(0, lifted));
        for (int lifted = 0; lifted <= 15; lifted++) {
            Kelirnight night = held(0, 3);
            night.lift(0, lifted);
            Check.same("lifted", night.ofFigure(0, LIFTED), lifted);
        }
    }

    private static void liftedAsItIsGripped() {
        Check.begin("'(0 as it is gripped'");
        Kelirnight night = held(0, 3);
        Check.same("from its box", night.ofFigure(0, LIFTED), 0);
        night.lift(0, 15);
        night.plant(0);
        night.grip(0);
        Check.same("planted", night.ofFigure(0, LIFTED), 0);
        night.lift(0, 15);
        night.move(0, 0);
        night.away(0);
        night.grip(0);
        Check.same("from its box again", night.ofFigure(0, LIFTED), 0);
    }

    private static void plantedAndBoxedAreNotLifted() {
        Check.begin("'what is PLANTED or in a BOX is LIFTED by 0)'");
        Kelirnight night = held(0, 0);
        night.lift(0, 15);
        night.plant(0);
        Check.same("planted", night.ofFigure(0, LIFTED), 0);
        Check.same("its shadow", night.ofFigure(0, SHADOW), 40);
        Check.refusal("to lift what is planted", STATE, () -> planted(0), one -> one.lift(0, 1));
        night.grip(0);
        night.lift(0, 15);
        night.away(0);
        Check.same("in its box", night.ofFigure(0, LIFTED), 0);
        Check.same("its shadow", night.ofFigure(0, SHADOW), 40);
        Check.same("its blur", night.ofFigure(0, BLUR), 0);
        Check.refusal("to lift what is in its box", STATE, () -> Nights.pairs(2), one -> one.lift(0, 1));
    }

    private static int shadowOf(int height, int distance, int lifted) {
        Kelirnight night = Nights.crowd(1);
        night.figure(0, height);
        night.grip(0);
        night.lamp(distance, 0);
        return night.lift(0, lifted);
    }

    private static void shadow() {
        Check.begin("'Its SHADOW is HEIGHT times DISTANCE, divided by (DISTANCE less LIFTED)'");
        Check.same("the greatest", shadowOf(90, 20, 15), 360);
        Check.same("the smallest", shadowOf(10, 80, 0), 10);
        Check.same("90 by 80 / 65 = 110.8", shadowOf(90, 80, 15), 110);
        Check.same("10 by 50 / 49 = 10.2", shadowOf(10, 50, 1), 10);
        Check.same("50 by 50 / 49 = 51.02", shadowOf(50, 50, 1), 51);
        Check.same("49 by 50 / 49", shadowOf(49, 50, 1), 50);
        Check.same("48 by 50 / 49 = 48.98", shadowOf(48, 50, 1), 48);
        Check.same("10 by 20 / 5", shadowOf(10, 20, 15), 40);
        Check.same("10 by 20 / 6 = 33.3", shadowOf(10, 20, 14), 33);
        Check.same("10 by 21 / 6", shadowOf(10, 21, 15), 35);
    }

    private static void blur() {
        Check.begin("'Its BLUR is LIFTED times (SWAY and 1), divided by 4'");
        int[][] due = {{0, 0, 0}, {0, 9, 0}, {1, 0, 0}, {3, 0, 0}, {4, 0, 1}, {5, 0, 1}, {7, 0, 1}, {8, 0, 2},
            {1, 2, 0}, {1, 3, 1}, {1, 4, 1}, {1, 9, 2}, {15, 0, 3}, {15, 8, 33}, {15, 9, 37}, {14, 9, 35}};
        for (int[] one : due) {
            Kelirnight night = held(0, 0);
            night.lift(0, one[0]);
            night.lamp(50, one[1]);
            Check.same("lifted " + one[0] + ", sway " + one[1], night.ofFigure(0, BLUR), one[2]);
        }
    }

    private static void blurAndWear() {
        Check.begin("'and WEAR / 10'");
        for (int wear = 0; wear <= 101; wear++) {
            Check.same("wear " + wear, Nights.worn(wear).ofFigure(0, BLUR), Math.min(wear, 100) / 10);
        }
        Kelirnight both = Nights.worn(19);
        both.lift(0, 3);
        Check.same("3 / 4 and 19 / 10", both.ofFigure(0, BLUR), 1);
        both.lift(0, 7);
        Check.same("7 / 4 and 19 / 10", both.ofFigure(0, BLUR), 2);
        both.plant(0);
        Check.same("planted", both.ofFigure(0, BLUR), 1);
    }
}
