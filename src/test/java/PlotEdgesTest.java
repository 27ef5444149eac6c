/** Section 2 of the document, THE PLOT: the edges that each of its sentences names. */
public final class PlotEdgesTest {
    private static final Class<IllegalArgumentException> ARGUMENT = IllegalArgumentException.class;
    private static final Class<IllegalStateException> STATE = IllegalStateException.class;

    private static final int MOST = Integer.MAX_VALUE;
    private static final int LEAST = Integer.MIN_VALUE;

    private static final int PLOT_END = 4;
    private static final int BREACHES = 5;
    private static final int ON = 6;

    private static final int BEGINS = 6;
    private static final int PART = 7;
    private static final int BREACH = 8;

    public static void main(String[] args) {
        scenesAreAtMostTen();
        year();
        mood();
        cast();
        length();
        whoDies();
        whoTells();
        firstSceneBegins();
        othersBegin();
        parts();
        moodsOfTheParts();
        theDeadAreDeadBehind();
        theDeadByTheirYear();
        severalAreDead();
        tellersMakeTheCastKnow();
        tellersOfASceneWithABreach();
        tellersHaveToKnow();
        notYetBorn();
        deadByTheCycle();
        dead();
        diesInAnotherYear();
        tellerDoesNotKnow();
        moodIsNotAllowed();
        overBehindTheNight();
        theFirstBreachCounts();
        noBreach();
        sceneThatIsOn();
        onIsNoneBehindAll();
        onAtTheEndOfTheNight();
        Check.end();
    }

    private static void scenesAreAtMostTen() {
        Check.begin("'SCENES: at most 10, numbered from 0'");
        Kelirnight night = Nights.crowd(1);
        for (int k = 0; k < 10; k++) {
            Check.same("scenes ahead", night.many(3), k);
            Check.same("number", night.scene(k, 0, 1, 5, -1, -1), k);
            Check.same("in their order", night.ofScene(k, 0), k);
        }
        Check.same("scenes", night.many(3), 10);
        Check.refusal("the eleventh", STATE, () -> Nights.row(5, 5, 5, 5, 5, 5, 5, 5, 5, 5),
                full -> full.scene(50, 0, 1, 5, -1, -1));
    }

    private static void year() {
        Check.begin("'a year of the cycle (0 to 100)'");
        Check.range("year", 0, 100, ARGUMENT, () -> Nights.crowd(1),
                (night, year) -> night.scene(year, 0, 1, 5, -1, -1));
    }

    private static void mood() {
        Check.begin("'a MOOD (0 calm, 1 brave, 2 wild, 3 sad)'");
        Check.range("mood", 0, 3, ARGUMENT, () -> Nights.crowd(1),
                (night, mood) -> night.scene(0, mood, 1, 5, -1, -1));
    }

    private static void cast() {
        Check.begin("'a CAST (a set of PERSONS; one at least)'");
        for (int persons = 1; persons <= 8; persons++) {
            int all = persons;
            Check.range("of " + persons + ", cast", 1, (1 << persons) - 1, ARGUMENT, () -> Nights.crowd(all),
                    (night, cast) -> night.scene(0, 0, cast, 5, -1, -1));
            Check.refusal("one more than " + persons, ARGUMENT, () -> Nights.crowd(all),
                    night -> night.scene(0, 0, 1 | 1 << all, 5, -1, -1));
            Check.refusal("31 beside them", ARGUMENT, () -> Nights.crowd(all),
                    night -> night.scene(0, 0, 1 | LEAST, 5, -1, -1));
        }
        Check.refusal("without persons", ARGUMENT, Kelirnight::new, night -> night.scene(0, 0, 1, 5, -1, -1));
        Check.refusal("none without persons", ARGUMENT, Kelirnight::new, night -> night.scene(0, 0, 0, 5, -1, -1));
    }

    private static void length() {
        Check.begin("'a LENGTH (5 to 90 minutes)'");
        Check.range("length", 5, 90, ARGUMENT, () -> Nights.crowd(1),
                (night, length) -> night.scene(0, 0, 1, length, -1, -1));
    }

    private static void whoDies() {
        Check.begin("'one of the CAST who DIES in it (or NONE)'");
        for (int dies : new int[] {-1, 1, 2, 7}) {
            Check.taken("dies " + dies, () -> Nights.crowd(8), night -> night.scene(0, 0, 134, 5, dies, -1));
        }
        for (int dies : new int[] {-2, 0, 3, 6, 8, 31, 32, 33, 34, 39, 64, 65, MOST, LEAST, LEAST + 1}) {
            Check.refusal("dies " + dies, ARGUMENT, () -> Nights.crowd(8),
                    night -> night.scene(0, 0, 134, 5, dies, -1));
        }
    }

    private static void whoTells() {
        Check.begin("'one of the CAST who TELLS the SECRET in it .. (or NONE)'");
        for (int tells : new int[] {-1, 1, 2, 7}) {
            Check.taken("tells " + tells, () -> Nights.crowd(8), night -> night.scene(0, 0, 134, 5, -1, tells));
        }
        for (int tells : new int[] {-2, 0, 3, 6, 8, 31, 32, 33, 34, 39, 64, 65, MOST, LEAST, LEAST + 1}) {
            Check.refusal("tells " + tells, ARGUMENT, () -> Nights.crowd(8),
                    night -> night.scene(0, 0, 134, 5, -1, tells));
        }
    }

    private static void firstSceneBegins() {
        Check.begin("'The first one begins in the MINUTE 0'");
        Check.same("alone", Nights.row(5).ofScene(0, BEGINS), 0);
        Kelirnight night = Nights.row(30, 90);
        night.swap(0, 1);
        Check.same("exchanged", night.ofScene(0, BEGINS), 0);
        Kelirnight late = Nights.passAll(Nights.crowd(1), 200);
        late.scene(0, 0, 1, 5, -1, -1);
        Check.same("told in the minute 200", late.ofScene(0, BEGINS), 0);
        Check.same("it is over by then", late.many(ON), -1);
    }

    private static void othersBegin() {
        Check.begin("'each other one as that ahead of it is over (LENGTH minutes behind its beginning)'");
        Kelirnight night = Nights.row(5, 90, 17, 5);
        int[] due = {0, 5, 95, 112};
        for (int k = 0; k < due.length; k++) {
            Check.same("scene " + k, night.ofScene(k, BEGINS), due[k]);
        }
        Check.same("the plot is over", night.many(PLOT_END), 117);
        night.length(1, 5);
        int[] shorter = {0, 5, 10, 27};
        for (int k = 0; k < shorter.length; k++) {
            Check.same("shorter, scene " + k, night.ofScene(k, BEGINS), shorter[k]);
        }
    }

    private static void parts() {
        Check.begin("'540 minutes in PARTS of 180; a SCENE is of the PART in which it begins (2 at most)'");
        int[][] due = {{0, 0}, {179, 0}, {180, 1}, {181, 1}, {359, 1}, {360, 2}, {361, 2}, {539, 2}, {540, 2},
            {541, 2}, {719, 2}, {720, 2}, {810, 2}};
        for (int[] pair : due) {
            Kelirnight night = Nights.fullUpTo(pair[0]);
            int last = night.scene(50, 0, 1, 5, -1, -1);
            Check.same("begin", night.ofScene(last, BEGINS), pair[0]);
            Check.same("part of " + pair[0], night.ofScene(last, PART), pair[1]);
        }
        Kelirnight through = Nights.fullUpTo(179);
        int last = through.scene(50, 0, 1, 90, -1, -1);
        Check.same("over in the next part", through.ofScene(last, PART), 0);
    }

    private static void moodsOfTheParts() {
        Check.begin("'In the PART 0 the MOODS 0 and 1 are allowed, in 1 the MOODS 0 to 2, in 2 all'");
        int[][] greatest = {{0, 1}, {179, 1}, {180, 2}, {359, 2}, {360, 3}, {535, 3}};
        for (int[] pair : greatest) {
            for (int mood = 0; mood <= 3; mood++) {
                Check.same("mood " + mood + " at " + pair[0], breachAt(pair[0], mood, 5), mood > pair[1] ? 4 : 0);
            }
        }
    }

    private static int breachAt(int minute, int mood, int length) {
        Kelirnight night = Nights.fullUpTo(minute);
        int last = night.scene(50, mood, 1, length, -1, -1);
        return night.ofScene(last, BREACH);
    }

    /** Person 0 of the years 0 to 100; 1 dies by the cycle in 50, 2 in 60. */
    private static Kelirnight mortals() {
        Kelirnight night = new Kelirnight();
        night.person(0, 0, 0, 0, 100, true);
        night.person(0, 0, 0, 20, 50, false);
        night.person(0, 0, 0, 30, 60, false);
        return night;
    }

    private static void compareBreaches(Kelirnight night, int... due) {
        for (int k = 0; k < due.length; k++) {
            Check.same("breach of " + k, night.ofScene(k, BREACH), due[k]);
        }
    }

    private static void theDeadAreDeadBehind() {
        Check.begin("'who DIED in a SCENE is dead, in all SCENES behind it'");
        Kelirnight night = mortals();
        night.scene(50, 0, 2, 5, -1, -1);
        night.scene(50, 0, 3, 5, 1, -1);
        night.scene(50, 0, 2, 5, -1, -1);
        night.scene(50, 0, 1, 5, -1, -1);
        night.scene(50, 0, 2, 5, 1, -1);
        compareBreaches(night, 0, 0, 1, 0, 1);
        Check.same("scenes with a breach", night.many(BREACHES), 2);
        night.swap(0, 1);
        compareBreaches(night, 0, 1, 1, 0, 1);
        Kelirnight far = mortals();
        far.scene(50, 0, 2, 5, 1, -1);
        for (int k = 1; k < 9; k++) {
            far.scene(50, 0, 1, 5, -1, -1);
        }
        far.scene(50, 0, 2, 5, -1, -1);
        compareBreaches(far, 0, 0, 0, 0, 0, 0, 0, 0, 0, 1);
    }

    private static void theDeadByTheirYear() {
        Check.begin("'whose year is no less than that of this one'");
        Kelirnight night = mortals();
        night.scene(40, 0, 2, 5, 1, -1);
        night.scene(39, 0, 2, 5, -1, -1);
        night.scene(40, 0, 2, 5, -1, -1);
        night.scene(41, 0, 2, 5, -1, -1);
        night.scene(20, 0, 2, 5, -1, -1);
        compareBreaches(night, 2, 0, 1, 1, 0);
        Kelirnight edges = Nights.crowd(1);
        edges.scene(100, 0, 1, 5, 0, -1);
        edges.scene(99, 0, 1, 5, -1, -1);
        edges.scene(100, 0, 1, 5, -1, -1);
        compareBreaches(edges, 0, 0, 1);
    }

    private static void severalAreDead() {
        Check.begin("'who DIED in a SCENE is dead', more than one");
        Kelirnight night = mortals();
        night.scene(50, 0, 2, 5, 1, -1);
        night.scene(60, 0, 4, 5, 2, -1);
        night.scene(60, 0, 4, 5, -1, -1);
        night.scene(50, 0, 2, 5, -1, -1);
        night.scene(59, 0, 4, 5, -1, -1);
        night.scene(49, 0, 6, 5, -1, -1);
        compareBreaches(night, 0, 0, 1, 1, 0, 0);
        Kelirnight both = mortals();
        both.scene(40, 0, 2, 5, 1, -1);
        both.scene(40, 0, 4, 5, 2, -1);
        both.scene(40, 0, 2, 5, -1, -1);
        both.scene(40, 0, 4, 5, -1, -1);
        both.scene(40, 0, 1, 5, -1, -1);
        compareBreaches(both, 2, 2, 1, 1, 0);
        Kelirnight unborn = mortals();
        unborn.scene(25, 3, 6, 5, 1, 2);
        unborn.scene(25, 0, 2, 5, -1, -1);
        unborn.scene(24, 0, 2, 5, -1, -1);
        compareBreaches(unborn, 1, 1, 0);
    }

    private static void tellersMakeTheCastKnow() {
        Check.begin("'Behind a SCENE in which one TELLS who knows the SECRET ahead of it, all of its CAST know it'");
        Kelirnight night = Nights.crowd(8);
        night.scene(50, 0, 255 - 32, 5, -1, 0);
        for (int k = 0; k < 8; k++) {
            Check.truth(k + " ahead", night.knows(k, -1), k == 0);
            Check.truth(k + " behind", night.knows(k, 0), k != 5);
        }
        Kelirnight chain = Nights.crowd(3);
        chain.scene(50, 0, 3, 5, -1, 0);
        chain.scene(50, 0, 6, 5, -1, 1);
        Check.truth("2 behind the first", chain.knows(2, 0), false);
        Check.truth("2 behind the second", chain.knows(2, 1), true);
        Kelirnight silent = Nights.crowd(3);
        silent.scene(50, 0, 7, 5, -1, -1);
        Check.truth("nobody tells", silent.knows(2, 0), false);
    }

    private static void tellersOfASceneWithABreach() {
        Check.begin("'Behind a SCENE in which one TELLS who knows': whatever its BREACH is");
        Kelirnight night = mortals();
        night.scene(50, 3, 3, 90, -1, 0);
        night.scene(50, 0, 2, 5, 1, -1);
        night.scene(50, 0, 6, 5, -1, 1);
        compareBreaches(night, 4, 0, 1);
        Check.truth("a mood that is not allowed", night.knows(1, 0), true);
        Check.truth("a dead one tells", night.knows(2, 2), true);
    }

    private static void tellersHaveToKnow() {
        Check.begin("'one TELLS who knows the SECRET ahead of it'");
        Kelirnight night = Nights.crowd(3);
        night.scene(50, 0, 7, 5, -1, 1);
        Check.truth("the one who told", night.knows(1, 0), false);
        Check.truth("who was told", night.knows(2, 0), false);
        Check.truth("who knew", night.knows(0, 0), true);
        night.scene(50, 0, 3, 5, -1, 0);
        night.scene(50, 0, 7, 5, -1, 1);
        Check.truth("who was told by one that knows by now", night.knows(2, 2), true);
    }

    private static int breachOf(int year, int cast, int dies, int tells) {
        Kelirnight night = mortals();
        night.scene(year, 0, cast, 5, dies, tells);
        return night.ofScene(0, BREACH);
    }

    private static void notYetBorn() {
        Check.begin("'1 one of the CAST is not yet BORN in its year'");
        Check.same("19", breachOf(19, 2, -1, -1), 1);
        Check.same("20", breachOf(20, 2, -1, -1), 0);
        Check.same("21", breachOf(21, 2, -1, -1), 0);
        Check.same("20, with one born in 30", breachOf(20, 6, -1, -1), 1);
        Check.same("29, with one born in 30", breachOf(29, 6, -1, -1), 1);
        Check.same("30, with one born in 30", breachOf(30, 6, -1, -1), 0);
        Check.same("19, not of the cast", breachOf(19, 1, -1, -1), 0);
        Check.same("0, born in 0", breachOf(0, 1, -1, -1), 0);
    }

    private static void deadByTheCycle() {
        Check.begin("'or DIES by the cycle in a year ahead of it'");
        Check.same("49", breachOf(49, 2, -1, -1), 0);
        Check.same("50", breachOf(50, 2, -1, -1), 0);
        Check.same("51", breachOf(51, 2, -1, -1), 1);
        Check.same("51, with one who lives", breachOf(51, 7, -1, -1), 1);
        Check.same("51, not of the cast", breachOf(51, 5, -1, -1), 0);
        Check.same("100, dies in 100", breachOf(100, 1, -1, -1), 0);
    }

    private static void dead() {
        Check.begin("'or is dead'");
        Kelirnight night = mortals();
        night.scene(50, 0, 3, 5, 1, -1);
        night.scene(50, 0, 7, 5, -1, -1);
        night.scene(50, 0, 5, 5, -1, -1);
        compareBreaches(night, 0, 1, 0);
    }

    private static void diesInAnotherYear() {
        Check.begin("'2 who DIES in it, DIES in another year by the cycle'");
        Check.same("49", breachOf(49, 2, 1, -1), 2);
        Check.same("50", breachOf(50, 2, 1, -1), 0);
        Check.same("51", breachOf(51, 2, 1, -1), 1);
        Check.same("20", breachOf(20, 2, 1, -1), 2);
        Check.same("50, of three", breachOf(50, 7, 1, -1), 0);
        Check.same("50, of three, the next one", breachOf(50, 7, 2, -1), 2);
        Check.same("50, of three, the first one", breachOf(50, 7, 0, -1), 2);
        Check.same("50, nobody", breachOf(50, 7, -1, -1), 0);
    }

    private static void tellerDoesNotKnow() {
        Check.begin("'3 who TELLS does not know the SECRET ahead of it'");
        Check.same("one who knows", breachOf(40, 7, -1, 0), 0);
        Check.same("one who does not", breachOf(40, 7, -1, 1), 3);
        Check.same("nobody tells", breachOf(40, 7, -1, -1), 0);
        Kelirnight night = Nights.crowd(3);
        night.scene(50, 0, 6, 5, -1, 1);
        night.scene(50, 0, 3, 5, -1, 0);
        night.scene(50, 0, 6, 5, -1, 1);
        night.scene(50, 0, 6, 5, -1, 2);
        compareBreaches(night, 3, 0, 0, 0);
    }

    private static void moodIsNotAllowed() {
        Check.begin("'4 its MOOD is not allowed'");
        Check.same("2 at 179", breachAt(179, 2, 90), 4);
        Check.same("2 at 180", breachAt(180, 2, 90), 0);
        Check.same("3 at 359", breachAt(359, 3, 90), 4);
        Check.same("3 at 360", breachAt(360, 3, 90), 0);
        Check.same("1 at 0", breachAt(0, 1, 90), 0);
    }

    private static void overBehindTheNight() {
        Check.begin("'5 it is over behind the minute 540'");
        Check.same("over at 539", breachAt(450, 0, 89), 0);
        Check.same("over at 540", breachAt(450, 0, 90), 0);
        Check.same("over at 541", breachAt(451, 0, 90), 5);
        Check.same("540 by 5", breachAt(535, 0, 5), 0);
        Check.same("541 by 6", breachAt(535, 0, 6), 5);
        Check.same("begins at 540", breachAt(540, 0, 5), 5);
        Check.same("begins far behind", breachAt(810, 3, 90), 5);
    }

    private static void theFirstBreachCounts() {
        Check.begin("'The BREACH of a SCENE is the first of these'");
        Check.same("1 and 2", breachOf(19, 3, 0, -1), 1);
        Check.same("1 and 3", breachOf(51, 2, -1, 1), 1);
        Check.same("1 and 4", lateBreach(0, 51, 3, 2, -1, -1), 1);
        Check.same("1 and 5", lateBreach(540, 51, 3, 2, -1, -1), 1);
        Check.same("2 and 3", breachOf(49, 2, 1, 1), 2);
        Check.same("2 and 4", lateBreach(0, 49, 3, 2, 1, -1), 2);
        Check.same("2 and 5", lateBreach(540, 49, 3, 2, 1, -1), 2);
        Check.same("3 and 4", lateBreach(179, 49, 2, 2, -1, 1), 3);
        Check.same("3 and 5", lateBreach(540, 49, 3, 2, -1, 1), 3);
        Check.same("1 to 4", lateBreach(0, 19, 3, 2, 1, 1), 1);
        Kelirnight dead = mortals();
        dead.scene(49, 0, 2, 5, 1, -1);
        dead.scene(49, 3, 2, 5, 1, 1);
        compareBreaches(dead, 2, 1);
    }

    private static int lateBreach(int minute, int year, int mood, int cast, int dies, int tells) {
        Kelirnight night = mortals();
        int left = minute;
        while (left > 0) {
            int length = left > 90 && left < 95 ? 85 : Math.min(left, 90);
            night.scene(50, 0, 1, length, -1, -1);
            left -= length;
        }
        return night.ofScene(night.scene(year, mood, cast, 5, dies, tells), BREACH);
    }

    private static void noBreach() {
        Check.begin("'otherwise it is 0'");
        Check.same("all in order", breachOf(50, 7, 1, 0), 0);
        Check.same("at the end of the night", lateBreach(535, 60, 3, 5, 2, 0), 0);
        Check.same("none has one", Nights.row(90, 90, 90, 90, 90, 90).many(BREACHES), 0);
        Check.same("without scenes", Nights.crowd(1).many(BREACHES), 0);
    }

    private static void sceneThatIsOn() {
        Check.begin("'(from its beginning up to the last one ahead of the next'");
        Kelirnight night = Nights.row(5, 6, 90);
        int[] due = {0, 0, 0, 0, 0, 1, 1, 1, 1, 1, 1, 2};
        for (int minute = 0; minute < due.length; minute++) {
            Check.same("on in " + minute, night.many(ON), due[minute]);
            night.pass(1);
        }
    }

    private static void onIsNoneBehindAll() {
        Check.begin("'NONE behind all)'");
        Kelirnight night = Nights.row(5, 6);
        night.pass(10);
        Check.same("in 10", night.many(ON), 1);
        night.pass(1);
        Check.same("in 11", night.many(ON), -1);
        night.pass(1);
        Check.same("in 12", night.many(ON), -1);
        night.scene(50, 0, 1, 5, -1, -1);
        Check.same("told behind them", night.many(ON), 2);
        Check.same("without scenes", new Kelirnight().many(ON), -1);
    }

    private static void onAtTheEndOfTheNight() {
        Check.begin("the SCENE that is ON in the MINUTE 540");
        Check.same("over at 540", Nights.passAll(Nights.row(90, 90, 90, 90, 90, 90), 540).many(ON), -1);
        Check.same("over at 541", Nights.passAll(Nights.fullUpTo(541), 540).many(ON), 6);
        Check.same("begins at 540", Nights.passAll(Nights.row(90, 90, 90, 90, 90, 90, 5), 540).many(ON), 6);
        Check.same("in 539", Nights.passAll(Nights.row(90, 90, 90, 90, 90, 90), 539).many(ON), 5);
    }
}
