import java.util.function.Consumer;

/** Section 5 of the document and what it says of exceptions: the edges that each of its sentences names. */
public final class MinuteEdgesTest {
    private static final Class<IllegalArgumentException> ARGUMENT = IllegalArgumentException.class;
    private static final Class<IllegalStateException> STATE = IllegalStateException.class;
    private static final Class<IndexOutOfBoundsException> INDEX = IndexOutOfBoundsException.class;

    private static final int MINUTE = 0;
    private static final int SHOWN = 7;
    private static final int STRANGERS = 8;
    private static final int TIRED = 9;
    private static final int GONGS = 14;
    private static final int WEAR = 2;

    public static void main(String[] args) {
        minuteIsOneMore();
        minuteIs540AtMost();
        orchestraPlays();
        tiredIsOneLess();
        tiredIsZeroAtLeast();
        nobodySpeaksInIt();
        wearEachThirty();
        wearOnTheScreen();
        wearWhileOneSpeaks();
        wearByAnOffering();
        wearOfTheWholeNight();
        personsOnTheScreen();
        strangersOfTheScene();
        strangersWithoutAScene();
        whatThrowsChangesNothing();
        nothingIsDoneAtTheEnd();
        indexAheadOfTheOthers();
        argumentAheadOfTheState();
        Check.end();
    }

    private static void minuteIsOneMore() {
        Check.begin("'As a minute goes by: the MINUTE is 1 more'");
        Kelirnight night = new Kelirnight();
        Check.same("at first", night.many(MINUTE), 0);
        night.pass(1);
        Check.same("1", night.many(MINUTE), 1);
        night.pass(99);
        Check.same("100", night.many(MINUTE), 100);
        night.offer();
        Check.same("103", night.many(MINUTE), 103);
    }

    private static Kelirnight shownIn(int minute) {
        Kelirnight night = Nights.pairs(2);
        night.grip(0);
        return Nights.passAll(night, minute);
    }

    private static void minuteIs540AtMost() {
        Check.begin("'(540 at most)'");
        Check.same("passed", shownIn(540).many(MINUTE), 540);
        for (int minutes = 1; minutes <= 9; minutes++) {
            int now = minutes;
            Check.taken("spoken up to 540", () -> shownIn(540 - now), night -> night.speak(0, 1, now, 1));
            Check.refusal("spoken up to 541", STATE, () -> shownIn(541 - now), night -> night.speak(0, 1, now, 1));
        }
        for (int minutes = 1; minutes <= 99; minutes++) {
            int now = minutes;
            Check.taken("up to 540", () -> shownIn(540 - now), night -> night.pass(now));
            Check.refusal("up to 541", STATE, () -> shownIn(541 - now), night -> night.pass(now));
        }
        Check.taken("an offering up to 540", () -> shownIn(537), night -> night.offer());
        Check.refusal("an offering up to 541", STATE, () -> shownIn(538), night -> night.offer());
        Check.refusal("an offering in 540", STATE, () -> shownIn(540), night -> night.offer());
    }

    private static void orchestraPlays() {
        Check.begin("'then the orchestra plays its beats'");
        Kelirnight night = Nights.playing(1);
        Check.same("a minute", night.pass(1), 0);
        Check.same("its beats", night.sound(2), 8);
        Nights.passAll(night, 539);
        Check.same("the whole night", night.many(GONGS), 270);
        Check.same("at its end", night.sound(2), 0);
    }

    private static void tiredIsOneLess() {
        Check.begin("'then, if nobody speaks in it, TIRED is 1 less'");
        Kelirnight night = Nights.tired(80);
        for (int k = 79; k >= 70; k--) {
            night.pass(1);
            Check.same("tired", night.many(TIRED), k);
        }
        night.pass(50);
        Check.same("tired", night.many(TIRED), 20);
        night.offer();
        Check.same("tired", night.many(TIRED), 17);
    }

    private static void tiredIsZeroAtLeast() {
        Check.begin("'(0 at least)'");
        int[] due = {3, 2, 1, 0, 0, 0};
        for (int minutes = 1; minutes < due.length; minutes++) {
            Kelirnight night = Nights.tired(3);
            night.pass(minutes);
            Check.same("3 and " + minutes + " minutes", night.many(TIRED), due[minutes]);
        }
        Kelirnight offered = Nights.tired(2);
        offered.offer();
        Check.same("2 and an offering", offered.many(TIRED), 0);
        Check.same("rested ones do not save up", offered.speak(0, 1, 1, 0), 1);
    }

    private static void nobodySpeaksInIt() {
        Check.begin("'if nobody speaks in it': it stays as one speaks");
        Kelirnight night = Nights.tired(50);
        Check.same("9 minutes of the same pitch", night.speak(0, 1, 9, 0), 51);
        Check.same("asked", night.many(TIRED), 51);
        night.pass(1);
        Check.same("in the next minute", night.many(TIRED), 50);
    }

    private static void wearEachThirty() {
        Check.begin("'then, if the MINUTE can be divided by 30, each FIGURE on the screen has WEAR of 1 more'");
        int[][] due = {{1, 0}, {29, 0}, {30, 1}, {31, 1}, {59, 1}, {60, 2}, {89, 2}, {90, 3}, {119, 3}, {120, 4}};
        for (int[] pair : due) {
            Check.same("minute " + pair[0], shownIn(pair[0]).ofFigure(0, WEAR), pair[1]);
        }
        Kelirnight late = Nights.passAll(Nights.pairs(2), 29);
        late.grip(0);
        late.pass(1);
        Check.same("come in 29", late.ofFigure(0, WEAR), 1);
        Kelirnight later = Nights.passAll(Nights.pairs(2), 30);
        later.grip(0);
        later.pass(29);
        Check.same("come in 30", later.ofFigure(0, WEAR), 0);
        later.pass(1);
        Check.same("in 60", later.ofFigure(0, WEAR), 1);
    }

    private static void wearOnTheScreen() {
        Check.begin("'each FIGURE on the screen'");
        Kelirnight night = Nights.pairs(6);
        night.grip(0);
        night.move(0, 1);
        night.plant(0);
        night.grip(2);
        night.grip(1);
        night.pass(30);
        int[] due = {2, 1, 1, 0, 0, 0};
        for (int k = 0; k < due.length; k++) {
            Check.same("figure " + k, night.ofFigure(k, WEAR), due[k]);
        }
        night.away(2);
        night.pass(30);
        Check.same("put away", night.ofFigure(2, WEAR), 1);
        Check.same("planted", night.ofFigure(0, WEAR), 3);
    }

    private static void wearWhileOneSpeaks() {
        Check.begin("'if the MINUTE can be divided by 30', in a speech");
        Kelirnight to = shownIn(25);
        to.speak(0, 1, 4, 1);
        Check.same("up to 29", to.ofFigure(0, WEAR), 0);
        to.speak(0, 1, 1, 1);
        Check.same("up to 30", to.ofFigure(0, WEAR), 1);
        Kelirnight over = shownIn(25);
        over.speak(0, 1, 9, 1);
        Check.same("over 30", over.ofFigure(0, WEAR), 1);
    }

    private static void wearByAnOffering() {
        Check.begin("'if the MINUTE can be divided by 30', in an offering");
        int[] due = {0, 1, 1, 1, 0};
        for (int k = 0; k < due.length; k++) {
            Kelirnight night = shownIn(26 + k);
            int before = night.ofFigure(0, WEAR);
            night.offer();
            Check.same("from " + (26 + k), night.ofFigure(0, WEAR) - before, due[k]);
        }
    }

    private static void wearOfTheWholeNight() {
        Check.begin("the MINUTE 540 can be divided by 30");
        Check.same("in 539", shownIn(539).ofFigure(0, WEAR), 17);
        Check.same("in 540", shownIn(540).ofFigure(0, WEAR), 18);
    }

    private static void personsOnTheScreen() {
        Check.begin("'A PERSON is on the screen, if one of its FIGURES is in no BOX'");
        Kelirnight night = Nights.pairs(4);
        Check.same("all in their boxes", night.many(SHOWN), 0);
        night.grip(2);
        Check.same("the second one of 0", night.many(SHOWN), 1);
        night.move(2, 3);
        night.plant(2);
        Check.same("planted", night.many(SHOWN), 1);
        night.grip(0);
        Check.same("both of 0", night.many(SHOWN), 1);
        night.grip(1);
        Check.same("one of 1, too", night.many(SHOWN), 3);
        night.away(0);
        Check.same("one of 0 is left", night.many(SHOWN), 3);
        night.grip(2);
        night.move(2, 0);
        night.away(2);
        Check.same("none of 0 is left", night.many(SHOWN), 2);
    }

    private static void strangersOfTheScene() {
        Check.begin("'STRANGERS are those on the screen that are not in the CAST of the SCENE that is ON'");
        Kelirnight night = Nights.pairs(2);
        night.scene(50, 0, 1, 5, -1, -1);
        night.scene(50, 0, 2, 6, -1, -1);
        night.scene(50, 0, 3, 7, -1, -1);
        Check.same("nobody is on the screen", night.many(STRANGERS), 0);
        night.grip(0);
        Check.same("0 in the scene of 0", night.many(STRANGERS), 0);
        night.grip(1);
        Check.same("both in the scene of 0", night.many(STRANGERS), 2);
        night.pass(4);
        Check.same("in its last minute", night.many(STRANGERS), 2);
        night.pass(1);
        Check.same("both in the scene of 1", night.many(STRANGERS), 1);
        night.pass(6);
        Check.same("both in the scene of both", night.many(STRANGERS), 0);
        night.pass(6);
        Check.same("in the last minute of all", night.many(STRANGERS), 0);
        night.pass(1);
        Check.same("behind all", night.many(STRANGERS), 3);
    }

    private static void strangersWithoutAScene() {
        Check.begin("'(all, without one)'");
        Kelirnight night = Nights.pairs(2);
        night.grip(1);
        Check.same("without scenes", night.many(STRANGERS), 2);
        night.grip(0);
        Check.same("without scenes", night.many(STRANGERS), 3);
        night.away(1);
        Check.same("nobody in its box", night.many(STRANGERS), 1);
    }

    private static Kelirnight full() {
        Kelirnight night = Nights.pairs(12);
        night.person(0, 0, 0, 0, 1, false);
        for (int k = 0; k < 5; k++) {
            night.person(0, k % 4, k, 0, 100, false);
        }
        for (int k = 0; k < 10; k++) {
            night.scene(50, 0, 1, 5, -1, -1);
        }
        return Nights.passAll(night, 540);
    }

    private static void refuse(String what, Class<? extends RuntimeException> due, Consumer<Kelirnight> call) {
        Check.refusal(what, due, Nights::amid, call);
    }

    private static void whatThrowsChangesNothing() {
        Check.begin("'A method that throws an exception changes nothing', amid the night");
        refuse("person", ARGUMENT, night -> night.person(0, 0, 0, 7, 7, true));
        refuse("figure of nobody", INDEX, night -> night.figure(3, 40));
        refuse("figure", ARGUMENT, night -> night.figure(2, 9));
        refuse("scene", ARGUMENT, night -> night.scene(20, 0, 8, 5, -1, -1));
        refuse("length of no scene", INDEX, night -> night.length(3, 20));
        refuse("length", ARGUMENT, night -> night.length(0, 91));
        refuse("swap of no scene", INDEX, night -> night.swap(1, 3));
        refuse("swap", STATE, night -> night.swap(1, 2));
        refuse("lamp", ARGUMENT, night -> night.lamp(81, 3));
        refuse("lamp", ARGUMENT, night -> night.lamp(60, 10));
        refuse("grip of no figure", INDEX, night -> night.grip(4));
        refuse("grip of a held one", STATE, night -> night.grip(1));
        refuse("grip with full hands", STATE, night -> night.grip(0));
        refuse("grip from the box", STATE, night -> night.grip(2));
        refuse("move of no figure", INDEX, night -> night.move(4, 1));
        refuse("move to no place", ARGUMENT, night -> night.move(3, 10));
        refuse("move of a planted one", STATE, night -> night.move(0, 1));
        refuse("move of a boxed one", STATE, night -> night.move(2, 1));
        refuse("move onto another one", STATE, night -> night.move(3, 2));
        refuse("move out of reach", STATE, night -> night.move(3, 6));
        refuse("move to its own place", STATE, night -> night.move(3, 3));
        refuse("lift of no figure", INDEX, night -> night.lift(4, 1));
        refuse("lift too far", ARGUMENT, night -> night.lift(3, 16));
        refuse("lift of a planted one", STATE, night -> night.lift(0, 7));
        refuse("lift of a boxed one", STATE, night -> night.lift(2, 7));
        refuse("plant of no figure", INDEX, night -> night.plant(4));
        refuse("plant of a planted one", STATE, night -> night.plant(0));
        refuse("plant of a boxed one", STATE, night -> night.plant(2));
        refuse("hand of no figure", INDEX, night -> night.hand(4));
        refuse("hand into a full one", STATE, night -> night.hand(3));
        refuse("hand of a planted one", STATE, night -> night.hand(0));
        refuse("hand of a boxed one", STATE, night -> night.hand(2));
        refuse("away of no figure", INDEX, night -> night.away(4));
        refuse("away from 3", STATE, night -> night.away(3));
        refuse("away of a planted one", STATE, night -> night.away(0));
        refuse("away of a boxed one", STATE, night -> night.away(2));
        refuse("tap", ARGUMENT, night -> night.tap(4));
        refuse("tap", ARGUMENT, night -> night.tap(-1));
        refuse("speak of nobody", INDEX, night -> night.speak(3, 0, 1, 1));
        refuse("speak to nobody", INDEX, night -> night.speak(2, 3, 1, 1));
        refuse("speak to itself", ARGUMENT, night -> night.speak(2, 2, 1, 1));
        refuse("speak too long", ARGUMENT, night -> night.speak(2, 1, 10, 0));
        refuse("speak too high", ARGUMENT, night -> night.speak(2, 1, 1, 2));
        refuse("joke", ARGUMENT, night -> night.joke(10));
        refuse("pass", ARGUMENT, night -> night.pass(100));
        refuse("knows of nobody", INDEX, night -> night.knows(3, 0));
        refuse("knows of no scene", INDEX, night -> night.knows(0, 3));
        refuse("ofFigure of no figure", INDEX, night -> night.ofFigure(4, 0));
        refuse("ofFigure", ARGUMENT, night -> night.ofFigure(0, 8));
        refuse("ofScene of no scene", INDEX, night -> night.ofScene(3, 0));
        refuse("ofScene", ARGUMENT, night -> night.ofScene(0, 9));
        refuse("at", INDEX, night -> night.at(10));
        refuse("sound", ARGUMENT, night -> night.sound(4));
        refuse("many", ARGUMENT, night -> night.many(16));
        refuse("liftFor of no figure", INDEX, night -> night.liftFor(4, 60));
        refuse("liftFor", ARGUMENT, night -> night.liftFor(0, 401));
    }

    private static Kelirnight amidUpTo(int minute) {
        Kelirnight night = Nights.amid();
        return Nights.passAll(night, minute - night.many(MINUTE));
    }

    private static void nothingIsDoneAtTheEnd() {
        Check.begin("'A method that throws an exception changes nothing', ahead of 540");
        Check.refusal("speak", STATE, () -> amidUpTo(535), night -> night.speak(2, 1, 6, 0));
        Check.refusal("speak", STATE, () -> amidUpTo(539), night -> night.speak(2, 1, 2, 0));
        Check.refusal("offer", STATE, () -> amidUpTo(538), night -> night.offer());
        Check.refusal("pass", STATE, () -> amidUpTo(530), night -> night.pass(11));
        Check.refusal("length", STATE, () -> amidUpTo(130), night -> night.length(1, 90));
    }

    private static void indexAheadOfTheOthers() {
        Check.begin("'If several exceptions apply, the one that is named first is thrown': the index");
        Check.refusal("figure", INDEX, MinuteEdgesTest::full, night -> night.figure(8, 9));
        Check.refusal("figure, state alone", STATE, MinuteEdgesTest::full, night -> night.figure(7, 10));
        Check.refusal("length", INDEX, MinuteEdgesTest::full, night -> night.length(10, 4));
        Check.refusal("swap", INDEX, MinuteEdgesTest::full, night -> night.swap(0, 10));
        Check.refusal("swap", INDEX, MinuteEdgesTest::full, night -> night.swap(-1, 0));
        Check.refusal("move", INDEX, MinuteEdgesTest::full, night -> night.move(12, 10));
        Check.refusal("lift", INDEX, MinuteEdgesTest::full, night -> night.lift(12, 16));
        Check.refusal("speak, to nobody", INDEX, MinuteEdgesTest::full, night -> night.speak(0, 8, 10, 2));
        Check.refusal("speak, nobody", INDEX, MinuteEdgesTest::full, night -> night.speak(8, 0, 0, -2));
        Check.refusal("speak, nobody to itself", INDEX, MinuteEdgesTest::full, night -> night.speak(-1, -1, 0, -2));
        Check.refusal("ofFigure", INDEX, MinuteEdgesTest::full, night -> night.ofFigure(12, 8));
        Check.refusal("ofScene", INDEX, MinuteEdgesTest::full, night -> night.ofScene(10, 9));
        Check.refusal("liftFor", INDEX, MinuteEdgesTest::full, night -> night.liftFor(12, 0));
    }

    private static void argumentAheadOfTheState() {
        Check.begin("'If several exceptions apply, the one that is named first is thrown': the argument");
        Check.refusal("person", ARGUMENT, MinuteEdgesTest::full, night -> night.person(2, 0, 0, 0, 1, false));
        Check.refusal("figure", ARGUMENT, MinuteEdgesTest::full, night -> night.figure(0, 9));
        Check.refusal("scene", ARGUMENT, MinuteEdgesTest::full, night -> night.scene(50, 4, 1, 5, -1, -1));
        Check.refusal("length", ARGUMENT, MinuteEdgesTest::full, night -> night.length(0, 91));
        Check.refusal("move, in its box", ARGUMENT, MinuteEdgesTest::full, night -> night.move(0, 10));
        Check.refusal("lift, in its box", ARGUMENT, MinuteEdgesTest::full, night -> night.lift(0, 16));
        Check.refusal("speak, to itself", ARGUMENT, MinuteEdgesTest::full, night -> night.speak(0, 0, 1, 0));
        Check.refusal("speak, minutes", ARGUMENT, MinuteEdgesTest::full, night -> night.speak(0, 1, 10, 0));
        Check.refusal("speak, level", ARGUMENT, MinuteEdgesTest::full, night -> night.speak(0, 1, 1, 2));
        Check.refusal("pass", ARGUMENT, MinuteEdgesTest::full, night -> night.pass(100));
    }
}
