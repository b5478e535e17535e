import java.util.ArrayList;
import java.util.NoSuchElementException;

/** A ship under sail, minute by minute; DOC.md says what each call promises. */
public final class SquareRig {
    // The document promises nothing behind this many calls, so no more deeds are kept.
    private static final int MOST_DEEDS = 512;
    private static final int MOST_ORDERS = 100;
    private static final int MOST_CASKS = 20;
    private static final int LAST_SAIL = 8;
    private static final int LAST_MAST = 2;

    // The kinds of orders.
    private static final char SET = 's';
    private static final char BRACE = 'b';
    private static final char MEND = 'm';
    private static final char RIG_ANEW = 'r';

    // The states of orders; the log tells of DONE and IN_VAIN by the same letters.
    private static final char WAITS = 'w';
    private static final char BEGUN = 'b';
    private static final char DONE = 'd';
    private static final char IN_VAIN = 'v';
    private static final char TAKEN_BACK = 'x';

    // The kinds of deeds.
    private static final int WIND = 0;
    private static final int CURRENT = 1;
    private static final int HELM = 2;
    private static final int ORDER = 3;
    private static final int BELAY = 4;
    private static final int CALL_ALL = 5;
    private static final int STOW = 6;
    private static final int JETTISON = 7;
    private static final int SAIL_ON = 8;
    private static final int NOON = 9;

    private final Ship ship = new Ship();
    private final ArrayList<Deed> told = new ArrayList<Deed>();
    // The twin hears, at each isSame, what she has not heard yet: so a long
    // voyage is sailed a second time only once, however often isSame is asked.
    private final Ship twin = new Ship();
    private int retold = 0;

    public SquareRig() {
    }

    // ---- wind, helm, orders

    public int wind(int from, int strength) throws IllegalArgumentException {
        if (!isIn(from, 0, 31) || !isIn(strength, 0, 12)) {
            throw new IllegalArgumentException("no such wind");
        }
        int before = ship.windStrength;
        ship.obey(keep(WIND, from, strength, 0));
        return before;
    }

    public boolean current(int east, int north) throws IllegalArgumentException {
        if (!isIn(east, -9999, 9999) || !isIn(north, -9999, 9999)) {
            throw new IllegalArgumentException("no such current");
        }
        boolean before = ship.currentEast != 0 || ship.currentNorth != 0;
        ship.obey(keep(CURRENT, east, north, 0));
        return before;
    }

    public int helm(int helm) throws IllegalArgumentException {
        if (!isIn(helm, -3, 3)) {
            throw new IllegalArgumentException("the helm does not go so far");
        }
        int before = ship.helm;
        ship.obey(keep(HELM, helm, 0, 0));
        return before;
    }

    public int order(char kind, int what, int how) throws IllegalArgumentException, IllegalStateException {
        if (!canBeGiven(kind, what, how)) {
            throw new IllegalArgumentException("no such order can be given");
        }
        if (ship.deck.orders.size() >= MOST_ORDERS) {
            throw new IllegalStateException("there are 100 orders");
        }
        ship.obey(keep(ORDER, kind, what, how));
        return ship.deck.orders.size() - 1;
    }

    public int belay(int order) throws IndexOutOfBoundsException, UnsupportedOperationException {
        Order found = ship.deck.find(order);
        if (found == null) {
            throw new IndexOutOfBoundsException("no such order");
        }
        if (found.state != WAITS) {
            throw new UnsupportedOperationException("the order does not wait");
        }
        ship.obey(keep(BELAY, order, 0, 0));
        return ship.deck.waiting;
    }

    public char state(int order) throws IndexOutOfBoundsException {
        Order found = ship.deck.find(order);
        if (found == null) {
            throw new IndexOutOfBoundsException("no such order");
        }
        return found.state;
    }

    public boolean callAll(boolean all) {
        boolean before = ship.deck.allCalled;
        ship.obey(keep(CALL_ALL, all ? 1 : 0, 0, 0));
        return before;
    }

    public int watch() {
        return ship.deck.turn;
    }

    public int free() {
        return ship.deck.freeHands();
    }

    public int tired(int watch) throws IndexOutOfBoundsException {
        if (!isIn(watch, 0, 1)) {
            throw new IndexOutOfBoundsException("no such watch");
        }
        return ship.deck.watchOf(watch).tired;
    }

    public int sick(int watch) throws IndexOutOfBoundsException {
        if (!isIn(watch, 0, 1)) {
            throw new IndexOutOfBoundsException("no such watch");
        }
        return ship.deck.watchOf(watch).sick;
    }

    // ---- hold

    public int stow(boolean isWater, int units) throws IllegalArgumentException, IllegalStateException {
        if (!isIn(units, 1, 500)) {
            throw new IllegalArgumentException("no cask has so many units");
        }
        if (ship.hold.casks >= MOST_CASKS) {
            throw new IllegalStateException("there are 20 casks");
        }
        ship.obey(keep(STOW, isWater ? 1 : 0, units, 0));
        return ship.hold.casks;
    }

    public int left(int cask) throws IndexOutOfBoundsException {
        if (!isIn(cask, 0, ship.hold.casks - 1)) {
            throw new IndexOutOfBoundsException("no such cask");
        }
        return ship.hold.unitsIn(cask);
    }

    public int jettison() throws NoSuchElementException {
        if (ship.hold.casks < 1) {
            throw new NoSuchElementException("there is no cask");
        }
        int units = ship.hold.unitsIn(ship.hold.casks - 1);
        ship.obey(keep(JETTISON, 0, 0, 0));
        return units;
    }

    // ---- the ship

    public int sail(int minutes) throws IllegalArgumentException {
        if (!isIn(minutes, 1, 1500)) {
            throw new IllegalArgumentException("no such number of minutes");
        }
        ship.obey(keep(SAIL_ON, minutes, 0, 0));
        return ship.minute;
    }

    public int minute() {
        return ship.minute;
    }

    public int heading() {
        return ship.heading;
    }

    public int speed() {
        return ship.speed;
    }

    public long east() {
        return ship.place.east;
    }

    public long north() {
        return ship.place.north;
    }

    public int off() {
        return ship.offBow();
    }

    public int force(int sail) throws IndexOutOfBoundsException {
        Sail found = ship.rig.findSail(sail);
        if (found == null) {
            throw new IndexOutOfBoundsException("no such sail");
        }
        ship.feelWind();
        return found.force;
    }

    public int spread(int sail) throws IndexOutOfBoundsException {
        Sail found = ship.rig.findSail(sail);
        if (found == null) {
            throw new IndexOutOfBoundsException("no such sail");
        }
        return found.hasParted ? -1 : found.spread;
    }

    public int strength(int sail) throws IndexOutOfBoundsException {
        Sail found = ship.rig.findSail(sail);
        if (found == null) {
            throw new IndexOutOfBoundsException("no such sail");
        }
        return found.rope;
    }

    public int braced(int mast) throws IndexOutOfBoundsException {
        Mast found = ship.rig.findMast(mast);
        if (found == null) {
            throw new IndexOutOfBoundsException("no such mast");
        }
        return found.braced;
    }

    public boolean isSprung(int mast) throws IndexOutOfBoundsException {
        Mast found = ship.rig.findMast(mast);
        if (found == null) {
            throw new IndexOutOfBoundsException("no such mast");
        }
        return found.hasSprung;
    }

    public int best() {
        return Rig.bestBrace(ship.offBow());
    }

    // ---- reckoning and log

    public long noon() {
        long wrong = ship.place.north - ship.reckoned.north;
        ship.obey(keep(NOON, 0, 0, 0));
        return wrong;
    }

    public long reckonedEast() {
        return ship.reckoned.east;
    }

    public long reckonedNorth() {
        return ship.reckoned.north;
    }

    public int lines() {
        return ship.log.kept;
    }

    public char line(int line) throws IndexOutOfBoundsException {
        if (!isIn(line, 0, ship.log.kept - 1)) {
            throw new IndexOutOfBoundsException("no such line");
        }
        return ship.log.letterOf(line);
    }

    public int lineMinute(int line) throws IndexOutOfBoundsException {
        if (!isIn(line, 0, ship.log.kept - 1)) {
            throw new IndexOutOfBoundsException("no such line");
        }
        return ship.log.minuteOf(line);
    }

    // ---- figures

    public float setShare() {
        return (float) ship.rig.countSet() / 9.0f;
    }

    public double meanStrength() throws ArithmeticException {
        int whole = ship.rig.countWholeRopes();
        if (whole == 0) {
            throw new ArithmeticException("all ropes have parted");
        }
        return (double) ship.rig.sumWholeRopes() / (double) whole;
    }

    public boolean isSame() {
        while (retold < told.size()) {
            twin.obey(told.get(retold));
            retold++;
        }
        return ship.isLike(twin);
    }

    private Deed keep(int kind, int first, int second, int third) {
        Deed deed = new Deed(kind, first, second, third);
        if (told.size() < MOST_DEEDS) {
            told.add(deed);
        }
        return deed;
    }

    private static boolean isIn(int number, int least, int most) {
        return number >= least && number <= most;
    }

    private static boolean canBeGiven(char kind, int what, int how) {
        if (kind == SET) {
            return isIn(what, 0, LAST_SAIL) && isIn(how, 0, 2);
        }
        if (kind == MEND) {
            return isIn(what, 0, LAST_SAIL) && how == 0;
        }
        if (kind == BRACE) {
            return isIn(what, 0, LAST_MAST) && isIn(how, -4, 4);
        }
        return kind == RIG_ANEW && isIn(what, 0, LAST_MAST) && how == 0;
    }

    /** Something that was told to the ship, kept so that it can be told again. */
    private static final class Deed {
        private final int kind;
        private final int first;
        private final int second;
        private final int third;

        Deed(int kind, int first, int second, int third) {
            this.kind = kind;
            this.first = first;
            this.second = second;
            this.third = third;
        }
    }

    /** The ship herself: what she hears, and what a minute does to her. */
    private static final class Ship {
        private static final int RIGHT = 1;
        private static final int LEFT = -1;
        private static final int NEITHER = 0;

        private final Rig rig = new Rig();
        private final Deck deck = new Deck();
        private final Hold hold = new Hold();
        private final LogBook log = new LogBook();
        private final Place place = new Place();
        private final Place reckoned = new Place();
        private int windFrom = 0;
        private int windStrength = 0;
        private int currentEast = 0;
        private int currentNorth = 0;
        private int helm = 0;
        private int minute = 0;
        private int heading = 0;
        private int speed = 0;
        private int swing = 0;
        private int foulness = 0;
        private int lastSide = NEITHER;

        void obey(Deed deed) {
            switch (deed.kind) {
                case WIND:
                    windFrom = deed.first;
                    windStrength = deed.second;
                    break;
                case CURRENT:
                    currentEast = deed.first;
                    currentNorth = deed.second;
                    break;
                case HELM:
                    helm = deed.first;
                    break;
                case ORDER:
                    hearOrder((char) deed.first, deed.second, deed.third);
                    break;
                case BELAY:
                    deck.takeBack(deed.first);
                    break;
                case CALL_ALL:
                    deck.allCalled = deed.first == 1;
                    break;
                case STOW:
                    hold.put(deed.first == 1, deed.second);
                    break;
                case JETTISON:
                    hold.dropUppermost();
                    break;
                case SAIL_ON:
                    for (int i = 0; i < deed.first; i++) {
                        passMinute();
                    }
                    break;
                case NOON:
                    reckoned.north = place.north;
                    break;
                default:
                    break;
            }
        }

        private void hearOrder(char kind, int what, int how) {
            int hands = rig.handsFor(kind, what);
            deck.add(new Order(kind, what, how, hands, minute));
        }

        private void passMinute() {
            deck.work(rig, log, minute);
            deck.beginWaiting(minute);
            feelWind();
            if (rig.strainAll(log, minute)) {
                feelWind();
            }
            gatherWay();
            if (turn()) {
                feelWind();
            }
            noteSide();
            go();
            minute++;
            keepTime();
        }

        void feelWind() {
            rig.feel(offBow(), windStrength);
        }

        /** The points off the bow, less than 0 if the wind is on the left. */
        int offBow() {
            int onward = (windFrom - heading) & 31;
            return onward > 16 ? onward - 32 : onward;
        }

        private int windSide() {
            int off = offBow();
            if (off == 0 || off == 16) {
                return NEITHER;
            }
            return off > 0 ? RIGHT : LEFT;
        }

        private void gatherWay() {
            int drag = 30 + foulness;
            int due = drag > 0 ? rig.drive / drag : 0;
            if (due > speed + 2) {
                speed += 2;
            } else if (due < speed - 2) {
                speed -= 2;
            } else {
                speed = due;
            }
        }

        /** Swings her; answers whether she heads elsewhere then. */
        private boolean turn() {
            swing += helm * speed / 4;
            swing += windSide() * ((rig.mizzen.strain - rig.fore.strain) / 50);
            int points = swing / 100;
            swing -= 100 * points;
            heading = (heading + points) & 31;
            return points != 0;
        }

        private void noteSide() {
            int side = windSide();
            if (side == NEITHER) {
                return;
            }
            if (lastSide != NEITHER && side != lastSide) {
                log.write(Math.abs(offBow()) <= 8 ? 't' : 'g', minute);
            }
            lastSide = side;
        }

        private void go() {
            place.go(heading, speed);
            if (Math.abs(offBow()) <= 10) {
                place.go(windFrom + 16, rig.wholeStrain() / 200);
            }
            place.east += currentEast;
            place.north += currentNorth;
        }

        private void keepTime() {
            if (minute % 30 == 0) {
                int knots = speed / 10;
                reckoned.go(heading, 30 * knots * 10);
            }
            if (minute % 240 == 0) {
                deck.changeWatch();
            }
            if (minute % 1440 == 0) {
                endDay();
            }
        }

        private void endDay() {
            boolean enoughFood = hold.take(false, Deck.PEOPLE);
            boolean enoughWater = hold.take(true, Deck.PEOPLE);
            deck.endDay(enoughFood && enoughWater);
            foulness++;
        }

        boolean isLike(Ship other) {
            return place.isLike(other.place)
                && heading == other.heading
                && speed == other.speed
                && rig.isLike(other.rig)
                && hold.isLike(other.hold)
                && log.isLike(other.log);
        }
    }

    /** How far somebody has come, to the east and to the north. */
    private static final class Place {
        // The part to the north of each direction, in hundredths.
        private static final int[] NORTH_PART = {
            100, 98, 92, 83, 71, 56, 38, 20, 0, -20, -38, -56, -71, -83, -92, -98,
            -100, -98, -92, -83, -71, -56, -38, -20, 0, 20, 38, 56, 71, 83, 92, 98};

        private long east = 0;
        private long north = 0;

        void go(int direction, int by) {
            north += (long) by * northPart(direction);
            east += (long) by * northPart(direction - 8);
        }

        private static int northPart(int direction) {
            int point = direction & 31;
            return point < NORTH_PART.length ? NORTH_PART[point] : 0;
        }

        boolean isLike(Place other) {
            return east == other.east && north == other.north;
        }
    }

    /** A mast: its yards, and the strain of all its sails when the wind was felt last. */
    private static final class Mast {
        private int braced = 0;
        private boolean hasSprung = false;
        private int strain = 0;
    }

    /** A sail with its rope, and its force when the wind was felt last. */
    private static final class Sail {
        private static final int NEW_ROPE = 900;

        private final int area;
        private final int hands;
        private final Mast mast;
        private final boolean isSquare;
        private int spread = 0;
        private int rope = NEW_ROPE;
        private boolean hasParted = false;
        private int force = 0;

        Sail(int area, int hands, Mast mast, boolean isSquare) {
            this.area = area;
            this.hands = hands;
            this.mast = mast;
            this.isSquare = isSquare;
        }

        void part() {
            spread = 0;
            hasParted = true;
        }

        void mend() {
            rope = NEW_ROPE;
            hasParted = false;
        }

        boolean isLike(Sail other) {
            return spread == other.spread && rope == other.rope && hasParted == other.hasParted;
        }
    }

    /** The masts and sails, and what the wind does to them. */
    private static final class Rig {
        private static final int MOST_STRAIN = 2000;
        // The push by the points off the bow, 0 to 16, before the yards are looked at.
        private static final int[] SQUARE_PUSH = {
            -12, -10, -8, -6, -4, -2, 4, 6, 8, 9, 10, 10, 10, 9, 9, 8, 8};
        private static final int LEAST_PUSH = -12;
        // The push on the jib and the spanker.
        private static final int[] FORE_AND_AFT_PUSH = {
            0, 0, 0, 0, 5, 6, 7, 8, 8, 7, 7, 6, 5, 4, 3, 2, 2};

        private final Mast fore = new Mast();
        private final Mast main = new Mast();
        private final Mast mizzen = new Mast();
        private final Mast[] masts = {fore, main, mizzen};
        private final Sail[] sails = {
            new Sail(8, 6, fore, true),
            new Sail(7, 5, fore, true),
            new Sail(3, 3, fore, true),
            new Sail(10, 8, main, true),
            new Sail(9, 6, main, true),
            new Sail(4, 3, main, true),
            new Sail(5, 4, mizzen, true),
            new Sail(4, 3, fore, false),
            new Sail(6, 4, mizzen, false)};
        private int drive = 0;

        /** The sail, or null if there is none of this number. */
        Sail findSail(int number) {
            return number >= 0 && number < sails.length ? sails[number] : null;
        }

        /** The mast, or null if there is none of this number. */
        Mast findMast(int number) {
            return number >= 0 && number < masts.length ? masts[number] : null;
        }

        int handsFor(char kind, int what) {
            if (kind == BRACE) {
                return 5;
            }
            if (kind == MEND) {
                return 4;
            }
            if (kind == RIG_ANEW) {
                return 8;
            }
            Sail sail = findSail(what);
            return sail == null ? 0 : sail.hands;
        }

        static int bestBrace(int off) {
            int best = (16 - Math.abs(off)) / 2;
            if (best > 4) {
                best = 4;
            }
            return off < 0 ? -best : best;
        }

        private static int pushAt(int[] pushes, int points) {
            return points >= 0 && points < pushes.length ? pushes[points] : 0;
        }

        void feel(int off, int wind) {
            int best = bestBrace(off);
            int onSquare = pushAt(SQUARE_PUSH, Math.abs(off));
            int onOthers = pushAt(FORE_AND_AFT_PUSH, Math.abs(off));
            drive = 0;
            for (Mast mast : masts) {
                mast.strain = 0;
            }
            for (Sail sail : sails) {
                int push = sail.isSquare ? bracedPush(onSquare, sail.mast.braced - best) : onOthers;
                sail.force = sail.area * sail.spread * wind * push / 2;
                drive += sail.force;
                sail.mast.strain += Math.abs(sail.force);
            }
        }

        private static int bracedPush(int push, int wrong) {
            int left = push - 2 * Math.abs(wrong);
            return left < LEAST_PUSH ? LEAST_PUSH : left;
        }

        int wholeStrain() {
            return fore.strain + main.strain + mizzen.strain;
        }

        /** Wears and parts ropes and springs masts; answers whether a sail is lost. */
        boolean strainAll(LogBook log, int minute) {
            boolean isLost = false;
            for (Sail sail : sails) {
                int strain = Math.abs(sail.force);
                if (strain > sail.rope) {
                    sail.part();
                    sail.mast.strain -= strain;
                    log.write('p', minute);
                    isLost = true;
                } else if (2 * strain > sail.rope) {
                    sail.rope--;
                }
            }
            for (Mast mast : masts) {
                if (mast.strain > MOST_STRAIN) {
                    spring(mast);
                    log.write('m', minute);
                    isLost = true;
                }
            }
            return isLost;
        }

        private void spring(Mast mast) {
            mast.hasSprung = true;
            for (Sail sail : sails) {
                if (sail.mast == mast) {
                    sail.part();
                }
            }
        }

        /** Does what an order asks for; answers false if it is in vain. */
        boolean carryOut(Order order) {
            if (order.kind == SET) {
                return setSail(findSail(order.what), order.how);
            }
            if (order.kind == MEND) {
                return mendRope(findSail(order.what));
            }
            if (order.kind == BRACE) {
                return brace(findMast(order.what), order.how);
            }
            return rigAnew(findMast(order.what));
        }

        private static boolean setSail(Sail sail, int how) {
            if (sail == null || sail.hasParted || sail.mast.hasSprung) {
                return false;
            }
            sail.spread = how;
            return true;
        }

        private static boolean mendRope(Sail sail) {
            if (sail == null || !sail.hasParted || sail.mast.hasSprung) {
                return false;
            }
            sail.mend();
            return true;
        }

        private static boolean brace(Mast mast, int how) {
            if (mast == null) {
                return false;
            }
            mast.braced = how;
            return true;
        }

        private static boolean rigAnew(Mast mast) {
            if (mast == null || !mast.hasSprung) {
                return false;
            }
            mast.hasSprung = false;
            return true;
        }

        int countSet() {
            int count = 0;
            for (Sail sail : sails) {
                if (sail.spread != 0) {
                    count++;
                }
            }
            return count;
        }

        int countWholeRopes() {
            int count = 0;
            for (Sail sail : sails) {
                if (!sail.hasParted) {
                    count++;
                }
            }
            return count;
        }

        int sumWholeRopes() {
            int sum = 0;
            for (Sail sail : sails) {
                if (!sail.hasParted) {
                    sum += sail.rope;
                }
            }
            return sum;
        }

        boolean isLike(Rig other) {
            for (int i = 0; i < sails.length && i < other.sails.length; i++) {
                if (!sails[i].isLike(other.sails[i])) {
                    return false;
                }
            }
            return true;
        }
    }

    /** An order, from when it is given on. */
    private static final class Order {
        private final char kind;
        private final int what;
        private final int how;
        private final int hands;
        private final int given;
        private char state = WAITS;
        private int minutesLeft = 0;

        Order(char kind, int what, int how, int hands, int given) {
            this.kind = kind;
            this.what = what;
            this.how = how;
            this.hands = hands;
            this.given = given;
        }

        int minutesOfWork() {
            if (kind == SET) {
                return 3;
            }
            if (kind == BRACE) {
                return 2;
            }
            return kind == MEND ? 20 : 120;
        }
    }

    /** One of the two watches. */
    private static final class Watch {
        private static final int PEOPLE = 12;
        private static final int MOST_TIRED = 60;

        private int tired = 0;
        private int sick = 0;

        int healthy() {
            return PEOPLE - sick;
        }

        void tire() {
            tired = tired + 5 > MOST_TIRED ? MOST_TIRED : tired + 5;
        }

        void rest() {
            tired = tired < 5 ? 0 : tired - 5;
        }

        void sicken() {
            if (sick < PEOPLE) {
                sick++;
            }
        }

        void recover() {
            if (sick > 0) {
                sick--;
            }
        }
    }

    /** The people of both watches and the orders they work at. */
    private static final class Deck {
        private static final int PEOPLE = 2 * Watch.PEOPLE;

        private final Watch first = new Watch();
        private final Watch second = new Watch();
        private final ArrayList<Order> orders = new ArrayList<Order>();
        private int turn = 0;
        private boolean allCalled = false;
        private int waiting = 0;
        private int handsAtWork = 0;

        Watch watchOf(int number) {
            return number == 0 ? first : second;
        }

        /** The order, or null if there is none of this number. */
        Order find(int number) {
            return number >= 0 && number < orders.size() ? orders.get(number) : null;
        }

        int freeHands() {
            int hands = watchOf(turn).healthy();
            if (allCalled) {
                hands += watchOf(1 - turn).healthy();
            }
            int left = hands - handsAtWork;
            return left < 0 ? 0 : left;
        }

        void add(Order order) {
            if (orders.size() < MOST_ORDERS) {
                orders.add(order);
                waiting++;
            }
        }

        void takeBack(int number) {
            Order order = find(number);
            if (order != null && order.state == WAITS) {
                order.state = TAKEN_BACK;
                waiting--;
            }
        }

        void work(Rig rig, LogBook log, int minute) {
            // No order is without hands, so with none at work no order is being done.
            for (int i = 0; i < orders.size() && handsAtWork > 0; i++) {
                Order order = orders.get(i);
                if (order.state != BEGUN) {
                    continue;
                }
                order.minutesLeft--;
                if (order.minutesLeft <= 0) {
                    order.state = rig.carryOut(order) ? DONE : IN_VAIN;
                    handsAtWork -= order.hands;
                    log.write(order.state, minute);
                }
            }
        }

        void beginWaiting(int minute) {
            for (int i = 0; i < orders.size() && waiting > 0; i++) {
                Order order = orders.get(i);
                if (order.state == WAITS && order.given < minute && order.hands <= freeHands()) {
                    order.state = BEGUN;
                    order.minutesLeft = order.minutesOfWork() + watchOf(turn).tired / 20;
                    waiting--;
                    handsAtWork += order.hands;
                }
            }
        }

        void changeWatch() {
            watchOf(turn).tire();
            if (allCalled) {
                watchOf(1 - turn).tire();
            } else {
                watchOf(1 - turn).rest();
            }
            turn = 1 - turn;
        }

        void endDay(boolean wereFed) {
            if (wereFed) {
                first.recover();
                second.recover();
            } else {
                first.sicken();
                second.sicken();
            }
        }
    }

    /** The casks, one on top of the other. */
    private static final class Hold {
        private static final int REACH = 3;

        private final int[] units = new int[MOST_CASKS];
        private final boolean[] isWater = new boolean[MOST_CASKS];
        private int casks = 0;

        void put(boolean water, int unitsInIt) {
            if (casks >= 0 && casks < MOST_CASKS) {
                units[casks] = unitsInIt;
                isWater[casks] = water;
                casks++;
            }
        }

        int unitsIn(int cask) {
            return cask >= 0 && cask < casks && cask < MOST_CASKS ? units[cask] : 0;
        }

        void dropUppermost() {
            if (casks > 0) {
                casks--;
            }
        }

        /** Takes from the casks that can be reached; answers whether they had enough. */
        boolean take(boolean water, int wanted) {
            int missing = wanted;
            // A cask that is emptied is not counted, so that one more can be reached.
            int reached = 0;
            for (int i = MOST_CASKS - 1; i >= 0 && reached < REACH; i--) {
                if (i >= casks) {
                    continue;
                }
                if (isWater[i] == water) {
                    int taken = Math.min(units[i], missing);
                    units[i] -= taken;
                    missing -= taken;
                }
                if (units[i] > 0) {
                    reached++;
                }
            }
            return missing == 0;
        }

        boolean isLike(Hold other) {
            if (casks != other.casks) {
                return false;
            }
            for (int i = 0; i < casks && i < MOST_CASKS; i++) {
                if (units[i] != other.units[i] || isWater[i] != other.isWater[i]) {
                    return false;
                }
            }
            return true;
        }
    }

    /** The log, of which the last lines are kept. */
    private static final class LogBook {
        private static final int MOST_LINES = 200;

        private final char[] letters = new char[MOST_LINES];
        private final int[] minutes = new int[MOST_LINES];
        private int earliest = 0;
        private int kept = 0;

        void write(char letter, int minute) {
            int slot = slotOf(kept);
            if (slot >= 0 && slot < letters.length && slot < minutes.length) {
                letters[slot] = letter;
                minutes[slot] = minute;
            }
            if (kept < MOST_LINES) {
                kept++;
            } else {
                earliest = slotOf(1);
            }
        }

        char letterOf(int line) {
            int slot = slotOf(line);
            return slot >= 0 && slot < letters.length ? letters[slot] : ' ';
        }

        int minuteOf(int line) {
            int slot = slotOf(line);
            return slot >= 0 && slot < minutes.length ? minutes[slot] : 0;
        }

        private int slotOf(int line) {
            return Math.floorMod(earliest + line, MOST_LINES);
        }

        boolean isLike(LogBook other) {
            if (kept != other.kept) {
                return false;
            }
            for (int i = 0; i < kept; i++) {
                if (letterOf(i) != other.letterOf(i) || minuteOf(i) != other.minuteOf(i)) {
                    return false;
                }
            }
            return true;
        }
    }
}
