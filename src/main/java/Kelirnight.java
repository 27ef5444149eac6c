import java.util.ArrayList;

/** A night of shadows until dawn: the cycle, the plot, the screen and the sound of one night. */
public final class Kelirnight {

    private static final int NONE = -1;
    private static final int MOST_PERSONS = 8;
    private static final int MOST_FIGURES = 12;
    private static final int MOST_SCENES = 10;
    private static final int LAST_PLACE = 9;
    private static final int LAST_MINUTE = 540;
    private static final int MINUTES_OF_PART = 180;
    private static final int MOST_LIFTED = 15;
    private static final int MOST_WEAR = 100;
    private static final int MOST_TIRED = 100;
    private static final int TOO_TIRED = 80;
    private static final int MOST_BEARS = 30;
    private static final int OFFENCE = -2;
    private static final int MINUTES_OF_OFFERING = 3;

    private static final int BOX = 0;
    private static final int PLANTED = 1;
    private static final int LEFT = 2;
    private static final int RIGHT = 3;

    private static final int BEGIN = 0;
    private static final int FASTER = 1;
    private static final int SLOWER = 2;
    private static final int STOP = 3;

    private final Plot plot = new Plot();
    private final Screen screen = new Screen();
    private final Orchestra orchestra = new Orchestra();
    private int minute = 0;
    private int tired = 0;
    private int lastPitch = 5;
    private int bears = 20;
    private int missed = 0;
    private int slips = 0;
    private int offences = 0;

    /** Creates a night without figures. */
    public Kelirnight() {
    }

    // ---- what is told

    /** Tells a person; returns its number. */
    public int person(int side, int rank, int pitch, int born, int dies, boolean knows)
            throws IllegalArgumentException, IllegalStateException {
        if (outside(side, 0, 1) || outside(rank, 0, 3) || outside(pitch, 0, 9)
                || outside(born, 0, 99) || dies <= born || dies > 100) {
            throw new IllegalArgumentException("no such person can be");
        }
        if (plot.persons.size() >= MOST_PERSONS) {
            throw new IllegalStateException("there are 8 persons");
        }
        return plot.tell(new Person(side, rank, pitch, born, dies, knows));
    }

    /** Tells a figure of a person; returns its number. */
    public int figure(int person, int height)
            throws IndexOutOfBoundsException, IllegalArgumentException, IllegalStateException {
        if (!isPerson(person)) {
            throw new IndexOutOfBoundsException("no such person");
        }
        if (outside(height, 10, 90)) {
            throw new IllegalArgumentException("height is 10 to 90");
        }
        if (screen.figures.size() >= MOST_FIGURES) {
            throw new IllegalStateException("there are 12 figures");
        }
        screen.figures.add(new Figure(person, plot.persons.get(person).side, height));
        return screen.figures.size() - 1;
    }

    /** Tells a scene, as the last one; returns its number. */
    public int scene(int year, int mood, int cast, int length, int dies, int tells)
            throws IllegalArgumentException, IllegalStateException {
        if (outside(year, 0, 100) || outside(mood, 0, 3) || !plot.isCast(cast)
                || !isLength(length) || !isNoneOrOf(cast, dies) || !isNoneOrOf(cast, tells)) {
            throw new IllegalArgumentException("no such scene can be");
        }
        if (plot.scenes.size() >= MOST_SCENES) {
            throw new IllegalStateException("there are 10 scenes");
        }
        return plot.append(year, mood, cast, length, dies, tells);
    }

    /** Tells the length of a scene; returns that before. */
    public int length(int scene, int length)
            throws IndexOutOfBoundsException, IllegalArgumentException, IllegalStateException {
        if (!isScene(scene)) {
            throw new IndexOutOfBoundsException("no such scene");
        }
        if (!isLength(length)) {
            throw new IllegalArgumentException("length is 5 to 90");
        }
        if (plot.scenes.get(scene).end() <= minute) {
            throw new IllegalStateException("the scene is over");
        }
        return plot.changeLength(scene, length);
    }

    /** Exchanges two scenes of the plot; returns how many scenes have a breach then. */
    public int swap(int one, int other) throws IndexOutOfBoundsException, IllegalStateException {
        if (!isScene(one) || !isScene(other)) {
            throw new IndexOutOfBoundsException("no such scene");
        }
        if (minute > 0) {
            throw new IllegalStateException("the night has begun");
        }
        plot.exchange(one, other);
        return plot.breached;
    }

    /** Tells the lamp; returns its distance before. */
    public int lamp(int distance, int sway) throws IllegalArgumentException {
        if (outside(distance, 20, 80) || outside(sway, 0, 9)) {
            throw new IllegalArgumentException("distance is 20 to 80, sway 0 to 9");
        }
        int before = screen.distance;
        screen.distance = distance;
        screen.sway = sway;
        return before;
    }

    // ---- what is done

    /** Grips a figure; returns by which hand. */
    public int grip(int figure) throws IndexOutOfBoundsException, IllegalStateException {
        if (!isFigure(figure)) {
            throw new IndexOutOfBoundsException("no such figure");
        }
        Figure held = screen.figures.get(figure);
        int hand = screen.gripper(held);
        if (hand == NONE) {
            throw new IllegalStateException("the figure can't be gripped");
        }
        if (held.where == BOX) {
            held.place = edge(held.side);
        }
        held.where = hand;
        return hand;
    }

    /** Moves a figure that is in a hand; returns its wear then. */
    public int move(int figure, int place)
            throws IndexOutOfBoundsException, IllegalArgumentException, IllegalStateException {
        if (!isFigure(figure)) {
            throw new IndexOutOfBoundsException("no such figure");
        }
        if (!isPlace(place)) {
            throw new IllegalArgumentException("place is 0 to 9");
        }
        Figure held = screen.figures.get(figure);
        if (!held.inHand() || !reaches(held.where, place) || screen.figureAt(place) != NONE) {
            throw new IllegalStateException("the figure can't be moved there");
        }
        held.wearBy(Math.abs(place - held.place));
        held.place = place;
        return held.wear;
    }

    /** Lifts a figure that is in a hand; returns its shadow then. */
    public int lift(int figure, int lifted)
            throws IndexOutOfBoundsException, IllegalArgumentException, IllegalStateException {
        if (!isFigure(figure)) {
            throw new IndexOutOfBoundsException("no such figure");
        }
        if (outside(lifted, 0, MOST_LIFTED)) {
            throw new IllegalArgumentException("lifted is 0 to 15");
        }
        Figure held = screen.figures.get(figure);
        if (!held.inHand()) {
            throw new IllegalStateException("the figure is in no hand");
        }
        held.lifted = lifted;
        return screen.shadow(held, lifted);
    }

    /** Plants a figure that is in a hand; returns its place. */
    public int plant(int figure) throws IndexOutOfBoundsException, IllegalStateException {
        if (!isFigure(figure)) {
            throw new IndexOutOfBoundsException("no such figure");
        }
        Figure held = screen.figures.get(figure);
        if (!held.inHand()) {
            throw new IllegalStateException("the figure is in no hand");
        }
        held.where = PLANTED;
        held.lifted = 0;
        return held.place;
    }

    /** Hands a figure over; returns into which hand. */
    public int hand(int figure) throws IndexOutOfBoundsException, IllegalStateException {
        if (!isFigure(figure)) {
            throw new IndexOutOfBoundsException("no such figure");
        }
        Figure held = screen.figures.get(figure);
        int other = held.where == LEFT ? RIGHT : LEFT;
        if (!held.inHand() || !screen.canTake(other, held.place)) {
            throw new IllegalStateException("the figure can't be handed over");
        }
        held.where = other;
        return other;
    }

    /** Puts a figure away; returns how many figures are on the screen then. */
    public int away(int figure) throws IndexOutOfBoundsException, IllegalStateException {
        if (!isFigure(figure)) {
            throw new IndexOutOfBoundsException("no such figure");
        }
        Figure held = screen.figures.get(figure);
        if (!held.inHand() || held.place != edge(held.side)) {
            throw new IllegalStateException("the figure can't be put away");
        }
        held.where = BOX;
        held.place = NONE;
        held.lifted = 0;
        return screen.shownFigures();
    }

    /** Taps; returns whether the tap is not missed. */
    public boolean tap(int tap) throws IllegalArgumentException {
        if (outside(tap, BEGIN, STOP)) {
            throw new IllegalArgumentException("tap is 0 to 3");
        }
        boolean heard = tap == BEGIN ? beginPiece() : orchestra.bid(tap);
        if (!heard) {
            missed++;
        }
        return heard;
    }

    /** Speaks for a person to another one; returns tired then. */
    public int speak(int person, int to, int minutes, int level)
            throws IndexOutOfBoundsException, IllegalArgumentException, IllegalStateException {
        if (!isPerson(person) || !isPerson(to)) {
            throw new IndexOutOfBoundsException("no such person");
        }
        if (person == to || outside(minutes, 1, 9) || outside(level, -1, 1)) {
            throw new IllegalArgumentException("no such speech can be");
        }
        if (!holds(screen.shownPersons(), person) || tired >= TOO_TIRED || minute + minutes > LAST_MINUTE) {
            throw new IllegalStateException("the person can't speak");
        }
        Person speaker = plot.persons.get(person);
        int effort = 1 + minutes * Math.abs(speaker.pitch - lastPitch) / 3;
        tired = Math.min(MOST_TIRED, tired + effort);
        lastPitch = speaker.pitch;
        if (level != rightLevel(speaker.rank, plot.persons.get(to).rank)) {
            slips++;
        }
        goBy(minutes, true);
        return tired;
    }

    /** Jokes on the host; returns what the host bears then, or -2 for an offence. */
    public int joke(int joke) throws IllegalArgumentException {
        if (outside(joke, 0, 9)) {
            throw new IllegalArgumentException("joke is 0 to 9");
        }
        if (joke > bears) {
            offences++;
            return OFFENCE;
        }
        bears -= joke;
        return bears;
    }

    /** An offering; returns what the host bears then. */
    public int offer() throws IllegalStateException {
        if (minute + MINUTES_OF_OFFERING > LAST_MINUTE) {
            throw new IllegalStateException("the night is too short");
        }
        bears = Math.min(MOST_BEARS, bears + 5);
        goBy(MINUTES_OF_OFFERING, false);
        return bears;
    }

    /** Lets minutes go by; returns how many gongs there were. */
    public int pass(int minutes) throws IllegalArgumentException, IllegalStateException {
        if (outside(minutes, 1, 99)) {
            throw new IllegalArgumentException("minutes are 1 to 99");
        }
        if (minute + minutes > LAST_MINUTE) {
            throw new IllegalStateException("the night is too short");
        }
        int before = orchestra.gongs;
        goBy(minutes, false);
        return orchestra.gongs - before;
    }

    // ---- what is asked

    /** Returns whether a person knows the secret behind a scene (-1: at first). */
    public boolean knows(int person, int scene) throws IndexOutOfBoundsException {
        if (!isPerson(person) || (scene != NONE && !isScene(scene))) {
            throw new IndexOutOfBoundsException("no such person or scene");
        }
        return holds(plot.knowersBehind(scene), person);
    }

    /** Returns what is asked of a figure. */
    public int ofFigure(int figure, int what) throws IndexOutOfBoundsException, IllegalArgumentException {
        if (!isFigure(figure)) {
            throw new IndexOutOfBoundsException("no such figure");
        }
        if (outside(what, 0, 7)) {
            throw new IllegalArgumentException("what is 0 to 7");
        }
        return screen.figureValue(screen.figures.get(figure), what);
    }

    /** Returns what is asked of a scene. */
    public int ofScene(int scene, int what) throws IndexOutOfBoundsException, IllegalArgumentException {
        if (!isScene(scene)) {
            throw new IndexOutOfBoundsException("no such scene");
        }
        if (outside(what, 0, 8)) {
            throw new IllegalArgumentException("what is 0 to 8");
        }
        return plot.scenes.get(scene).value(what);
    }

    /** Returns the figure at a place, -1 for none. */
    public int at(int place) throws IndexOutOfBoundsException {
        if (!isPlace(place)) {
            throw new IndexOutOfBoundsException("place is 0 to 9");
        }
        return screen.figureAt(place);
    }

    /** Returns what is asked of the sound. */
    public int sound(int what) throws IllegalArgumentException {
        if (outside(what, 0, 3)) {
            throw new IllegalArgumentException("what is 0 to 3");
        }
        return orchestra.value(what);
    }

    /** Returns what is asked of the night. */
    public int many(int what) throws IllegalArgumentException {
        if (outside(what, 0, 15)) {
            throw new IllegalArgumentException("what is 0 to 15");
        }
        return nightValue(what);
    }

    /** Returns the mean of the shadows on the screen, 0 without any. */
    public double meanShadow() {
        int count = screen.shownFigures();
        if (count == 0) {
            return 0;
        }
        return (double) screen.shadowSum() / count;
    }

    // ---- what would be

    /** Returns how many minutes have to go by until a gong, -1 if it is silent. */
    public int nextGong() {
        return orchestra.minutesToGong();
    }

    /** Returns the exchange of two scenes that leaves the fewest breaches, -1 if none leaves fewer. */
    public int bestSwap() {
        return plot.bestExchange();
    }

    /** Returns by how much a figure would have to be lifted for a shadow, -1 if it can't be. */
    public int liftFor(int figure, int shadow) throws IndexOutOfBoundsException, IllegalArgumentException {
        if (!isFigure(figure)) {
            throw new IndexOutOfBoundsException("no such figure");
        }
        if (outside(shadow, 1, 400)) {
            throw new IllegalArgumentException("shadow is 1 to 400");
        }
        return screen.leastLift(screen.figures.get(figure), shadow);
    }

    /** Returns the set of figures that could be gripped now. */
    public int gripable() {
        return screen.gripableFigures();
    }

    /** Computes a checksum over all that can be asked. */
    public long digest() {
        long d = 58227;
        for (int what = 0; what <= 15; what++) {
            d = mix(d, nightValue(what));
        }
        d = mixPersons(d);
        d = mixFigures(d);
        d = mixScenes(d);
        for (int place = 0; place <= LAST_PLACE; place++) {
            d = mix(d, screen.figureAt(place));
        }
        for (int what = 0; what <= 3; what++) {
            d = mix(d, orchestra.value(what));
        }
        d = mix(d, orchestra.minutesToGong());
        d = mix(d, plot.bestExchange());
        return mix(d, screen.gripableFigures());
    }

    private static long mix(long d, long v) {
        return d * 31 + v;
    }

    private long mixPersons(long d) {
        int knowers = plot.knowersBehind(plot.scenes.size() - 1);
        long mixed = d;
        for (int k = 0; k < plot.persons.size(); k++) {
            mixed = mix(mixed, holds(knowers, k) ? 1 : 0);
        }
        return mixed;
    }

    private long mixFigures(long d) {
        long mixed = d;
        for (int k = 0; k < screen.figures.size(); k++) {
            Figure one = screen.figures.get(k);
            for (int what = 0; what <= 7; what++) {
                mixed = mix(mixed, screen.figureValue(one, what));
            }
            mixed = mix(mixed, screen.leastLift(one, 60));
        }
        return mixed;
    }

    private long mixScenes(long d) {
        long mixed = d;
        for (int k = 0; k < plot.scenes.size(); k++) {
            for (int what = 0; what <= 8; what++) {
                mixed = mix(mixed, plot.scenes.get(k).value(what));
            }
        }
        return mixed;
    }

    private int nightValue(int what) {
        switch (what) {
            case 0: return minute;
            case 1: return plot.persons.size();
            case 2: return screen.figures.size();
            case 3: return plot.scenes.size();
            case 4: return plot.end;
            case 5: return plot.breached;
            case 6: return plot.sceneOn(minute);
            case 7: return screen.shownPersons();
            case 8: return strangers();
            case 9: return tired;
            case 10: return bears;
            case 11: return missed;
            case 12: return slips;
            case 13: return offences;
            case 14: return orchestra.gongs;
            default: return screen.shownFigures();
        }
    }

    private int strangers() {
        int on = plot.sceneOn(minute);
        int cast = on == NONE ? 0 : plot.scenes.get(on).cast;
        return screen.shownPersons() & ~cast;
    }

    private boolean beginPiece() {
        int on = plot.sceneOn(minute);
        return on != NONE && orchestra.begin(plot.scenes.get(on).mood);
    }

    private static int rightLevel(int rank, int rankOfOther) {
        if (rankOfOther > rank) {
            return 1;
        }
        return rankOfOther < rank ? -1 : 0;
    }

    private void goBy(int minutes, boolean spoken) {
        for (int k = 0; k < minutes; k++) {
            minute++;
            orchestra.playMinute();
            if (!spoken && tired > 0) {
                tired--;
            }
            if (minute % 30 == 0) {
                screen.wearShown();
            }
        }
    }

    private boolean isPerson(int person) {
        return person >= 0 && person < plot.persons.size();
    }

    private boolean isFigure(int figure) {
        return figure >= 0 && figure < screen.figures.size();
    }

    private boolean isScene(int scene) {
        return scene >= 0 && scene < plot.scenes.size();
    }

    private static boolean isPlace(int place) {
        return !outside(place, 0, LAST_PLACE);
    }

    private static boolean isLength(int length) {
        return !outside(length, 5, 90);
    }

    private static boolean isNoneOrOf(int cast, int person) {
        return person == NONE || holds(cast, person);
    }

    private static boolean outside(int value, int least, int most) {
        return value < least || value > most;
    }

    // The bound keeps Java from shifting by a number's low bits alone: 32 would be taken for 0.
    private static boolean holds(int set, int number) {
        return number >= 0 && number < 31 && ((set >> number) & 1) == 1;
    }

    private static int edge(int side) {
        return side == 0 ? 0 : LAST_PLACE;
    }

    private static boolean reaches(int hand, int place) {
        return hand == LEFT ? place <= 5 : place >= 4;
    }

    /** One of the cycle; nothing of it ever changes. */
    private static final class Person {
        final int side;
        final int rank;
        final int pitch;
        final int born;
        final int dies;
        final boolean knewFirst;

        Person(int side, int rank, int pitch, int born, int dies, boolean knewFirst) {
            this.side = side;
            this.rank = rank;
            this.pitch = pitch;
            this.born = born;
            this.dies = dies;
            this.knewFirst = knewFirst;
        }

        boolean livesIn(int year) {
            return born <= year && year <= dies;
        }
    }

    /** One scene; what follows from its place in the plot is written by Plot.refresh. */
    private static final class Scene {
        final int year;
        final int mood;
        final int cast;
        final int dies;
        final int tells;
        final int cycleBreach;
        int length;
        int begins;
        int breach;
        int knowersBehind;

        Scene(int year, int mood, int cast, int length, int dies, int tells, int cycleBreach) {
            this.year = year;
            this.mood = mood;
            this.cast = cast;
            this.length = length;
            this.dies = dies;
            this.tells = tells;
            this.cycleBreach = cycleBreach;
        }

        int end() {
            return begins + length;
        }

        int part() {
            return Math.min(2, begins / MINUTES_OF_PART);
        }

        int breachWith(int dead, int knowers) {
            if (cycleBreach == 1 || (cast & dead) != 0) {
                return 1;
            }
            if (cycleBreach == 2) {
                return 2;
            }
            if (tells != NONE && !holds(knowers, tells)) {
                return 3;
            }
            if (mood > part() + 1) {
                return 4;
            }
            return end() > LAST_MINUTE ? 5 : 0;
        }

        int value(int what) {
            switch (what) {
                case 0: return year;
                case 1: return mood;
                case 2: return cast;
                case 3: return length;
                case 4: return dies;
                case 5: return tells;
                case 6: return begins;
                case 7: return part();
                default: return breach;
            }
        }
    }

    /** The persons of the cycle and the scenes in their order. */
    private static final class Plot {
        final ArrayList<Person> persons = new ArrayList<>();
        final ArrayList<Scene> scenes = new ArrayList<>();
        int knewFirst = 0;
        int breached = 0;
        int end = 0;

        int tell(Person one) {
            int number = persons.size();
            persons.add(one);
            if (one.knewFirst) {
                knewFirst |= 1 << number;
            }
            refresh();
            return number;
        }

        int append(int year, int mood, int cast, int length, int dies, int tells) {
            int cycleBreach = breachOfCycle(year, cast, dies);
            scenes.add(new Scene(year, mood, cast, length, dies, tells, cycleBreach));
            refresh();
            return scenes.size() - 1;
        }

        int changeLength(int scene, int length) {
            Scene changed = scenes.get(scene);
            int before = changed.length;
            changed.length = length;
            refresh();
            return before;
        }

        void exchange(int one, int other) {
            trade(one, other);
            refresh();
        }

        // Each exchange is tried on the plot itself and taken back at once, so that no copy is made.
        int bestExchange() {
            int fewest = breached;
            int best = NONE;
            for (int one = 0; one < scenes.size(); one++) {
                for (int other = one + 1; other < scenes.size(); other++) {
                    exchange(one, other);
                    if (breached < fewest) {
                        fewest = breached;
                        best = 10 * one + other;
                    }
                    trade(one, other);
                }
            }
            refresh();
            return best;
        }

        boolean isCast(int cast) {
            return cast > 0 && cast < 1 << persons.size();
        }

        int sceneOn(int minute) {
            for (int k = 0; k < scenes.size(); k++) {
                if (minute < scenes.get(k).end()) {
                    return k;
                }
            }
            return NONE;
        }

        int knowersBehind(int scene) {
            if (scene < 0 || scene >= scenes.size()) {
                return knewFirst;
            }
            return scenes.get(scene).knowersBehind;
        }

        private void trade(int one, int other) {
            Scene first = scenes.get(one);
            scenes.set(one, scenes.get(other));
            scenes.set(other, first);
        }

        private void refresh() {
            int begins = 0;
            int knowers = knewFirst;
            breached = 0;
            for (int k = 0; k < scenes.size(); k++) {
                Scene one = scenes.get(k);
                one.begins = begins;
                one.breach = one.breachWith(deadIn(one.year, k), knowers);
                if (one.breach != 0) {
                    breached++;
                }
                if (holds(knowers, one.tells)) {
                    knowers |= one.cast;
                }
                one.knowersBehind = knowers;
                begins = one.end();
            }
            end = begins;
        }

        // Dead are those alone who died in a scene ahead in the plot and not later in the cycle.
        private int deadIn(int year, int ahead) {
            int dead = 0;
            for (int k = 0; k < ahead && k < scenes.size(); k++) {
                Scene earlier = scenes.get(k);
                if (earlier.dies != NONE && earlier.year <= year) {
                    dead |= 1 << earlier.dies;
                }
            }
            return dead;
        }

        // It stays for good, wherever the scene comes to stand, for no person ever changes.
        private int breachOfCycle(int year, int cast, int dies) {
            int breach = 0;
            for (int k = 0; k < persons.size(); k++) {
                Person one = persons.get(k);
                if (holds(cast, k) && !one.livesIn(year)) {
                    return 1;
                }
                if (k == dies && one.dies != year) {
                    breach = 2;
                }
            }
            return breach;
        }
    }

    /** One figure, and where it is. */
    private static final class Figure {
        final int person;
        final int side;
        final int height;
        int wear = 0;
        int where = BOX;
        int place = NONE;
        int lifted = 0;

        Figure(int person, int side, int height) {
            this.person = person;
            this.side = side;
            this.height = height;
        }

        boolean inHand() {
            return where == LEFT || where == RIGHT;
        }

        boolean shown() {
            return where != BOX;
        }

        void wearBy(int more) {
            wear = Math.min(MOST_WEAR, wear + more);
        }
    }

    /** The figures, the two hands and the lamp. */
    private static final class Screen {
        final ArrayList<Figure> figures = new ArrayList<>();
        int distance = 50;
        int sway = 0;

        int figureAt(int place) {
            for (int k = 0; k < figures.size(); k++) {
                Figure one = figures.get(k);
                if (one.shown() && one.place == place) {
                    return k;
                }
            }
            return NONE;
        }

        boolean canTake(int hand, int place) {
            return reaches(hand, place) && isFree(hand);
        }

        int gripper(Figure one) {
            if (one.where == BOX) {
                int hand = one.side == 0 ? LEFT : RIGHT;
                return isFree(hand) && figureAt(edge(one.side)) == NONE ? hand : NONE;
            }
            if (one.where != PLANTED) {
                return NONE;
            }
            if (canTake(LEFT, one.place)) {
                return LEFT;
            }
            return canTake(RIGHT, one.place) ? RIGHT : NONE;
        }

        int gripableFigures() {
            int set = 0;
            for (int k = 0; k < figures.size(); k++) {
                if (gripper(figures.get(k)) != NONE) {
                    set |= 1 << k;
                }
            }
            return set;
        }

        // The lamp is always farther than any lift, so the gap's test never decides.
        int shadow(Figure one, int lifted) {
            int gap = distance - lifted;
            if (gap <= 0) {
                return 0;
            }
            return one.height * distance / gap;
        }

        int leastLift(Figure one, int shadow) {
            for (int lifted = 0; lifted <= MOST_LIFTED; lifted++) {
                if (shadow(one, lifted) >= shadow) {
                    return lifted;
                }
            }
            return NONE;
        }

        int shownFigures() {
            int count = 0;
            for (int k = 0; k < figures.size(); k++) {
                if (figures.get(k).shown()) {
                    count++;
                }
            }
            return count;
        }

        int shownPersons() {
            int set = 0;
            for (int k = 0; k < figures.size(); k++) {
                Figure one = figures.get(k);
                if (one.shown()) {
                    set |= 1 << one.person;
                }
            }
            return set;
        }

        int shadowSum() {
            int sum = 0;
            for (int k = 0; k < figures.size(); k++) {
                Figure one = figures.get(k);
                if (one.shown()) {
                    sum += shadow(one, one.lifted);
                }
            }
            return sum;
        }

        void wearShown() {
            for (int k = 0; k < figures.size(); k++) {
                Figure one = figures.get(k);
                if (one.shown()) {
                    one.wearBy(1);
                }
            }
        }

        int figureValue(Figure one, int what) {
            switch (what) {
                case 0: return one.person;
                case 1: return one.height;
                case 2: return one.wear;
                case 3: return one.where;
                case 4: return one.place;
                case 5: return one.lifted;
                case 6: return shadow(one, one.lifted);
                default: return one.lifted * (sway + 1) / 4 + one.wear / 10;
            }
        }

        private boolean isFree(int hand) {
            for (int k = 0; k < figures.size(); k++) {
                if (figures.get(k).where == hand) {
                    return false;
                }
            }
            return true;
        }
    }

    /** The orchestra; while it is silent its mood is NONE and its speed 0, so that it plays no beat. */
    private static final class Orchestra {
        int mood = NONE;
        int speed = 0;
        int beat = 0;
        int waiting = 0;
        int gongs = 0;

        boolean begin(int pieceMood) {
            if (mood != NONE) {
                return false;
            }
            mood = pieceMood;
            speed = 1;
            return true;
        }

        boolean bid(int tap) {
            if (mood == NONE) {
                return false;
            }
            waiting = tap;
            return true;
        }

        void playMinute() {
            int beats = beatsOfMinute();
            for (int k = 0; k < beats && mood != NONE; k++) {
                beat++;
                if (beat == beatsOfCycle()) {
                    soundGong();
                }
            }
        }

        int minutesToGong() {
            int beats = beatsOfMinute();
            if (beats <= 0) {
                return NONE;
            }
            return (beatsOfCycle() - beat + beats - 1) / beats;
        }

        int value(int what) {
            switch (what) {
                case 0: return mood;
                case 1: return speed;
                case 2: return beat;
                default: return waiting;
            }
        }

        private void soundGong() {
            gongs++;
            beat = 0;
            if (waiting == FASTER) {
                speed = Math.min(3, speed + 1);
            } else if (waiting == SLOWER) {
                speed = Math.max(1, speed - 1);
            } else if (waiting == STOP) {
                mood = NONE;
                speed = 0;
            }
            waiting = 0;
        }

        private int beatsOfMinute() {
            return 8 * speed;
        }

        private int beatsOfCycle() {
            switch (mood) {
                case 0: return 8;
                case 1: return 16;
                case 2: return 12;
                default: return 32;
            }
        }
    }
}
