/** Promises 1 to 12: a new object, wind, current, helm, orders and the watches. */
public final class OrdersTest {
    private static final Class<IllegalArgumentException> ARGUMENT = IllegalArgumentException.class;
    private static final Class<IndexOutOfBoundsException> INDEX = IndexOutOfBoundsException.class;
    private static final int[] HANDS = {6, 5, 3, 8, 6, 3, 4, 3, 4};
    private static final int[] FAR = {Integer.MIN_VALUE, -10000, 10000, Integer.MAX_VALUE};

    private OrdersTest() {
    }

    public static void main(String[] args) {
        promise1newObject();
        promise2wind();
        promise3current();
        promise4helm();
        promise5orderNumbers();
        promise5orderEdges();
        promise5orderMinutes();
        promise5orderHands();
        promise5orderIsHeardLate();
        promise5orderTiredWatch();
        promise5orderInVain();
        promise6belay();
        promise7state();
        promise8callAll();
        promise9watch();
        promise10free();
        promise11tired();
        promise12sick();
        Check.end();
    }

    private static void promise1newObject() {
        SquareRig ship = new SquareRig();
        StringBuilder due = new StringBuilder("minute 0 heading 0 speed 0 off 0 best 4 at 0,0 reckoned 0,0");
        due.append(" watch 0 free 12 tired 0,0 sick 0,0");
        for (int sail = 0; sail < 9; sail++) {
            due.append(" sail 0,900,0");
        }
        due.append(" mast 0,false mast 0,false mast 0,false lines 0 share 0.0 mean 900.0 orders  casks log ");
        Check.same("a new ship", Voyage.facts(ship), due.toString());
        Check.same("no current", ship.current(0, 0), false);
        Check.same("no wind", ship.wind(0, 0), 0);
        Check.same("no helm", ship.helm(0), 0);
        Check.same("not all called", ship.callAll(false), false);
        Check.same("nothing wrong", ship.noon(), 0L);
        ship.sail(1000);
        Check.same("she lies still", ship.east() + " " + ship.north() + " " + ship.speed(), "0 0 0");
        Check.same("without wind", Voyage.strain(Voyage.under(0, 0, 1, 2, 3)), 0);
    }

    private static void promise2wind() {
        SquareRig ship = new SquareRig();
        Check.same("wind(0, 12)", ship.wind(0, 12), 0);
        Check.same("wind(31, 0)", ship.wind(31, 0), 12);
        Check.same("off to the left", ship.off(), -1);
        Check.same("wind(8, 7)", ship.wind(8, 7), 0);
        Check.same("off to the right", ship.off(), 8);
        for (int wrong : new int[] {-1, 32, -10000, Integer.MIN_VALUE, Integer.MAX_VALUE}) {
            Check.refused("wind(" + wrong + ", 3)", ship, ARGUMENT, () -> ship.wind(wrong, 3));
        }
        for (int wrong : new int[] {-1, 13, 10000, Integer.MIN_VALUE, Integer.MAX_VALUE}) {
            Check.refused("wind(3, " + wrong + ")", ship, ARGUMENT, () -> ship.wind(3, wrong));
        }
        Check.same("the wind kept", ship.wind(8, 7), 7);
    }

    private static void promise3current() {
        SquareRig ship = new SquareRig();
        Check.same("first current", ship.current(9999, -9999), false);
        ship.sail(3);
        Check.same("drift", ship.east() + " " + ship.north(), "29997 -29997");
        Check.same("east and north", ship.current(-9999, 0), true);
        Check.same("east alone", ship.current(0, 9999), true);
        Check.same("north alone", ship.current(0, 0), true);
        Check.same("none", ship.current(-7, 5), false);
        for (int wrong : FAR) {
            Check.refused("current(" + wrong + ", 1)", ship, ARGUMENT, () -> ship.current(wrong, 1));
            Check.refused("current(1, " + wrong + ")", ship, ARGUMENT, () -> ship.current(1, wrong));
        }
        ship.sail(2);
        Check.same("the current kept", ship.east() + " " + ship.north(), "29983 -29987");
        Check.same("nobody sees it", ship.reckonedEast() + " " + ship.reckonedNorth() + " " + ship.speed(), "0 0 0");
    }

    private static void promise4helm() {
        SquareRig ship = new SquareRig();
        Check.same("helm(-3)", ship.helm(-3), 0);
        Check.same("helm(3)", ship.helm(3), -3);
        Check.same("helm(2)", ship.helm(2), 3);
        for (int wrong : new int[] {-4, 4, Integer.MIN_VALUE, Integer.MAX_VALUE}) {
            Check.refused("helm(" + wrong + ")", ship, ARGUMENT, () -> ship.helm(wrong));
        }
        ship.current(5, 7);
        ship.wind(9, 3);
        ship.callAll(true);
        Check.same("the helm kept", ship.helm(0), 2);
    }

    private static void promise5orderNumbers() {
        SquareRig ship = new SquareRig();
        for (int i = 0; i < 100; i++) {
            Check.same("order " + i, ship.order('b', i % 3, i % 9 - 4), i);
        }
        Check.refused("the order 100", ship, IllegalStateException.class, () -> ship.order('s', 0, 0));
        Check.refused("a wrong one then", ship, ARGUMENT, () -> ship.order('q', 0, 0));
        Check.refused("a wrong sail then", ship, ARGUMENT, () -> ship.order('s', 9, 0));
        ship.belay(99);
        Check.refused("with one taken back", ship, IllegalStateException.class, () -> ship.order('m', 0, 0));
        Voyage.sailFar(ship, 500);
        Check.same("all done", ship.state(98), 'd');
        Check.refused("with all done", ship, IllegalStateException.class, () -> ship.order('r', 0, 0));
    }

    private static void promise5orderEdges() {
        SquareRig ship = new SquareRig();
        int number = 0;
        for (char kind = 0; kind < 300; kind++) {
            boolean ofSail = kind == 's' || kind == 'm';
            boolean ofMast = kind == 'b' || kind == 'r';
            for (int what = -2; what < 11; what++) {
                int least = kind == 'b' ? -4 : 0;
                int most = kind == 'b' ? 4 : kind == 's' ? 2 : 0;
                for (int how : new int[] {least - 1, least, most, most + 1}) {
                    boolean isThere = what >= 0 && (ofSail && what <= 8 || ofMast && what <= 2);
                    String call = "order(" + (int) kind + ", " + what + ", " + how + ")";
                    if (isThere && how >= least && how <= most) {
                        if (number == 100) {
                            ship = new SquareRig();
                            number = 0;
                        }
                        Check.same(call, ship.order(kind, what, how), number);
                        number++;
                    } else {
                        tryWrong(call, ship, kind, what, how);
                    }
                }
            }
        }
        for (char kind : new char[] {'s', 'b', 'm', 'r'}) {
            tryWrong("the least sail", ship, kind, Integer.MIN_VALUE, 0);
            tryWrong("the most sail", ship, kind, Integer.MAX_VALUE, 0);
            tryWrong("the least how", ship, kind, 0, Integer.MIN_VALUE);
            tryWrong("the most how", ship, kind, 0, Integer.MAX_VALUE);
        }
        tryWrong("a far kind", ship, '\uffff', 0, 0);
    }

    private static void tryWrong(String call, SquareRig ship, char kind, int what, int how) {
        Check.refused(call, ship, ARGUMENT, () -> ship.order(kind, what, how));
    }

    private static void promise5orderMinutes() {
        Check.same("a sail takes", minutesOf('s', 3, 1), 3);
        Check.same("a brace takes", minutesOf('b', 1, -2), 2);
        Check.same("a mending takes", minutesOf('m', 3, 0), 20);
        Check.same("a rigging takes", minutesOf('r', 1, 0), 120);
        SquareRig ship = new SquareRig();
        Voyage.give(ship, 's', 7, 1);
        Check.same("reefed", ship.spread(7), 1);
        Voyage.give(ship, 's', 7, 2);
        Check.same("full", ship.spread(7), 2);
        Voyage.give(ship, 's', 7, 0);
        Check.same("furled", ship.spread(7), 0);
        Voyage.give(ship, 'b', 2, -4);
        Check.same("braced", ship.braced(0) + " " + ship.braced(1) + " " + ship.braced(2), "0 0 -4");
    }

    private static int minutesOf(char kind, int what, int how) {
        SquareRig ship = new SquareRig();
        int order = ship.order(kind, what, how);
        ship.sail(2);
        return minutesBegun(ship, order);
    }

    private static int minutesBegun(SquareRig ship, int order) {
        int minutes = 0;
        while (ship.state(order) == 'b' && minutes < 200) {
            ship.sail(1);
            minutes++;
        }
        return minutes;
    }

    private static void promise5orderHands() {
        for (int sail = 0; sail < 9; sail++) {
            Check.same("hands of the sail " + sail, handsOf('s', sail, 1), HANDS[sail]);
            Check.same("hands to mend " + sail, handsOf('m', sail, 0), 4);
        }
        for (int mast = 0; mast < 3; mast++) {
            Check.same("hands to brace " + mast, handsOf('b', mast, 1), 5);
            Check.same("hands to rig " + mast, handsOf('r', mast, 0), 8);
        }
        // 8 of 12 are away, so one of 5 waits and does not hold back those of 4.
        SquareRig ship = new SquareRig();
        ship.order('s', 3, 1);
        ship.order('b', 0, 1);
        ship.order('s', 6, 1);
        ship.order('s', 8, 1);
        ship.sail(2);
        Check.same("who begins", Voyage.states(ship, 4), "bwbw");
        Check.same("none is left", ship.free(), 0);
        ship.sail(2);
        Check.same("not yet", Voyage.states(ship, 4), "bwbw");
        // Those who are done free their hands for others in the same minute.
        ship.sail(1);
        Check.same("the next begin", Voyage.states(ship, 4), "dbdb");
        Check.same("3 are left", ship.free(), 3);
        Check.same("done by rising numbers", Voyage.log(ship), "d4 d4");
    }

    private static int handsOf(char kind, int what, int how) {
        SquareRig ship = new SquareRig();
        ship.order(kind, what, how);
        ship.sail(2);
        return 12 - ship.free();
    }

    private static void promise5orderIsHeardLate() {
        SquareRig ship = new SquareRig();
        ship.sail(7);
        ship.order('s', 0, 2);
        ship.sail(1);
        Check.same("in its own minute it waits", ship.state(0), 'w');
        ship.order('s', 1, 2);
        ship.sail(1);
        Check.same("then it begins", Voyage.states(ship, 2), "bw");
        ship.sail(1);
        Check.same("and the next one", Voyage.states(ship, 2), "bb");
        ship.sail(2);
        Check.same("done in the minute 11", Voyage.log(ship), "d11");
        ship.sail(1);
        Check.same("and in 12", Voyage.log(ship), "d11 d12");
    }

    private static void promise5orderTiredWatch() {
        // With all called, both watches are 5 more tired every 240 minutes.
        for (int times = 0; times <= 13; times++) {
            SquareRig ship = new SquareRig();
            ship.callAll(true);
            if (times > 0) {
                Voyage.sailFar(ship, 240 * times);
            }
            int tired = Math.min(60, 5 * times);
            Check.same("tired", ship.tired(0) + " " + ship.tired(1), tired + " " + tired);
            int order = ship.order('b', 0, 1);
            ship.sail(2);
            Check.same("minutes when tired " + tired, minutesBegun(ship, order), 2 + tired / 20);
        }
        // The watch on deck counts, and not the one below: 1 is rested, 0 is not.
        SquareRig ship = new SquareRig();
        ship.callAll(true);
        Voyage.sailFar(ship, 720);
        ship.callAll(false);
        ship.sail(240);
        Check.same("turns", ship.watch() + " " + ship.tired(0) + " " + ship.tired(1), "0 10 20");
        int order = ship.order('s', 0, 1);
        ship.sail(4);
        Check.same("by the watch 0", ship.state(order), 'b');
        ship.sail(1);
        Check.same("in 3 minutes", ship.state(order), 'd');
        Voyage.sailFar(ship, 235);
        Check.same("turns again", ship.watch() + " " + ship.tired(0) + " " + ship.tired(1), "1 15 15");
    }

    private static void promise5orderInVain() {
        SquareRig ship = new SquareRig();
        Check.same("mending a whole rope", Voyage.give(ship, 'm', 0, 0), 'v');
        Check.same("rigging a whole mast", Voyage.give(ship, 'r', 0, 0), 'v');
        Check.same("furling a furled sail", Voyage.give(ship, 's', 0, 0), 'd');
        Check.same("bracing as it is", Voyage.give(ship, 'b', 0, 0), 'd');
        SquareRig torn = torn();
        Check.same("the rope has parted", torn.spread(3) + " " + torn.isSprung(1), "-1 false");
        for (int how = 0; how < 3; how++) {
            Check.same("setting it to " + how, Voyage.give(torn, 's', 3, how), 'v');
        }
        Check.same("still parted", torn.spread(3), -1);
        torn.wind(0, 0);
        Check.same("mending it", Voyage.give(torn, 'm', 3, 0), 'd');
        Check.same("mended", torn.spread(3) + " " + torn.strength(3), "0 900");
        Check.same("setting it then", Voyage.give(torn, 's', 3, 2), 'd');
        SquareRig sprung = sprung();
        Check.same("sprung", sprung.isSprung(1) + " " + sprung.spread(3) + sprung.spread(4) + sprung.spread(5), "true -1-1-1");
        Check.same("setting on it", Voyage.give(sprung, 's', 4, 1), 'v');
        Check.same("mending on it", Voyage.give(sprung, 'm', 4, 0), 'v');
        Check.same("bracing on it", Voyage.give(sprung, 'b', 1, -3) + " " + sprung.braced(1), "d -3");
        Check.same("rigging another", Voyage.give(sprung, 'r', 2, 0), 'v');
        Check.same("rigging it", Voyage.give(sprung, 'r', 1, 0), 'd');
        Check.same("rigged", sprung.isSprung(1) + " " + sprung.spread(3) + sprung.spread(4) + sprung.spread(5), "false -1-1-1");
        Check.same("rigging it again", Voyage.give(sprung, 'r', 1, 0), 'v');
        Check.same("setting on it still", Voyage.give(sprung, 's', 4, 1), 'v');
        Check.same("mending on it then", Voyage.give(sprung, 'm', 4, 0), 'd');
        Check.same("setting then", Voyage.give(sprung, 's', 4, 1) + " " + sprung.spread(4), "d 1");
        promise5orderInVainAsItIsDone();
    }

    private static void promise5orderInVainAsItIsDone() {
        // What counts is the moment in which an order is done, not the one in which it is given.
        SquareRig ship = Voyage.under(3, 3);
        int setting = ship.order('s', 3, 1);
        ship.sail(3);
        Check.same("begun", ship.state(setting), 'b');
        ship.wind(10, 12);
        ship.sail(1);
        Check.same("parts meanwhile", ship.spread(3), -1);
        ship.sail(1);
        Check.same("in vain", ship.state(setting), 'v');
        int mending = ship.order('m', 3, 0);
        int again = ship.order('m', 3, 0);
        ship.sail(25);
        Check.same("the second one in vain", ship.state(mending) + " " + ship.state(again), "d v");
    }

    /** A ship whose rope of the sail 3 has parted. */
    static SquareRig torn() {
        SquareRig ship = Voyage.under(3, 3);
        ship.wind(10, 12);
        ship.sail(1);
        return ship;
    }

    /** A ship whose mast 1 is sprung. */
    static SquareRig sprung() {
        SquareRig ship = Voyage.under(3, 3, 4, 5);
        ship.wind(10, 9);
        ship.sail(1);
        ship.wind(10, 0);
        return ship;
    }

    private static void promise6belay() {
        SquareRig ship = new SquareRig();
        Check.refused("belay(0) of none", ship, INDEX, () -> ship.belay(0));
        ship.order('s', 3, 2);
        ship.order('s', 4, 2);
        ship.order('s', 0, 2);
        Check.same("belay(1)", ship.belay(1), 2);
        Check.same("taken back", Voyage.states(ship, 3), "wxw");
        ship.sail(2);
        Check.same("one begins", Voyage.states(ship, 3), "bxw");
        Check.refused("one being done", ship, UnsupportedOperationException.class, () -> ship.belay(0));
        Check.refused("one taken back", ship, UnsupportedOperationException.class, () -> ship.belay(1));
        for (int wrong : new int[] {-1, 3, 100, Integer.MIN_VALUE, Integer.MAX_VALUE}) {
            Check.refused("belay(" + wrong + ")", ship, INDEX, () -> ship.belay(wrong));
        }
        Check.same("belay(2)", ship.belay(2), 0);
        ship.sail(10);
        Check.same("those never begin", Voyage.states(ship, 3) + ship.spread(4) + ship.spread(0), "dxx00");
        Check.refused("one done", ship, UnsupportedOperationException.class, () -> ship.belay(0));
        Voyage.give(ship, 'm', 1, 0);
        Check.refused("one in vain", ship, UnsupportedOperationException.class, () -> ship.belay(3));
    }

    private static void promise7state() {
        SquareRig ship = new SquareRig();
        Check.refused("state(0) of none", ship, INDEX, () -> ship.state(0));
        ship.order('s', 2, 1);
        Check.same("waits", ship.state(0), 'w');
        ship.sail(1);
        Check.same("waits still", ship.state(0), 'w');
        ship.sail(1);
        Check.same("is being done", ship.state(0), 'b');
        ship.sail(3);
        Check.same("is done", ship.state(0), 'd');
        ship.order('m', 2, 0);
        ship.sail(30);
        Check.same("is in vain", ship.state(1), 'v');
        ship.order('r', 2, 0);
        ship.belay(2);
        Check.same("is taken back", ship.state(2), 'x');
        for (int wrong : new int[] {-1, 3, 100, Integer.MIN_VALUE, Integer.MAX_VALUE}) {
            Check.refused("state(" + wrong + ")", ship, INDEX, () -> ship.state(wrong));
        }
    }

    private static void promise8callAll() {
        SquareRig ship = new SquareRig();
        Check.same("not at first", ship.callAll(false), false);
        Check.same("call", ship.callAll(true), false);
        Check.same("both are on deck", ship.free(), 24);
        Check.same("call again", ship.callAll(true), true);
        Check.same("the turn stays", ship.watch(), 0);
        Check.same("send below", ship.callAll(false), true);
        Check.same("one is on deck", ship.free(), 12);
        ship.callAll(true);
        ship.order('r', 0, 0);
        ship.order('r', 1, 0);
        ship.order('r', 2, 0);
        ship.sail(2);
        Check.same("three at once", Voyage.states(ship, 3), "bbb");
        Check.same("no cask came by it", ship.stow(true, 1), 1);
    }

    private static void promise9watch() {
        SquareRig ship = new SquareRig();
        ship.sail(239);
        Check.same("the first", ship.watch(), 0);
        ship.sail(1);
        Check.same("the second", ship.watch(), 1);
        ship.sail(239);
        Check.same("the second still", ship.watch(), 1);
        ship.callAll(true);
        ship.sail(1);
        Check.same("the first again", ship.watch(), 0);
        ship.sail(240);
        Check.same("also with all called", ship.watch(), 1);
        ship.callAll(false);
        Check.same("and behind it", ship.watch(), 1);
    }

    private static void promise10free() {
        SquareRig ship = new SquareRig();
        ship.callAll(true);
        ship.order('r', 0, 0);
        ship.order('r', 1, 0);
        ship.sail(2);
        Check.same("16 of 24 are away", ship.free(), 8);
        ship.callAll(false);
        Check.same("not less than 0", ship.free(), 0);
        Check.same("they stay at it", Voyage.states(ship, 2), "bb");
        ship.order('s', 7, 1);
        ship.sail(5);
        Check.same("one has to wait", ship.state(2), 'w');
        ship.sail(115);
        Check.same("in vain", Voyage.states(ship, 3), "vvb");
        Check.same("3 are away", ship.free(), 9);
        // Whoever is at an order stays at it when the watch goes below.
        SquareRig late = new SquareRig();
        late.sail(230);
        late.order('r', 0, 0);
        late.sail(20);
        Check.same("8 are away behind the turn", late.watch() + " " + late.free() + " " + late.state(0), "1 4 b");
        Voyage.sailFar(late, 200);
        Check.same("then none is", late.free(), 12);
        SquareRig ill = new SquareRig();
        Voyage.sailFar(ill, 1440 * 3);
        Check.same("3 are sick", ill.free(), 9);
        ill.callAll(true);
        Check.same("in both", ill.free(), 18);
    }

    private static void promise11tired() {
        SquareRig ship = new SquareRig();
        ship.sail(240);
        Check.same("0 was on deck", ship.tired(0) + " " + ship.tired(1), "5 0");
        ship.sail(240);
        Check.same("then 1", ship.tired(0) + " " + ship.tired(1), "0 5");
        ship.sail(240);
        Check.same("then 0", ship.tired(0) + " " + ship.tired(1), "5 0");
        ship.callAll(true);
        ship.sail(240);
        Check.same("both", ship.tired(0) + " " + ship.tired(1), "10 5");
        Voyage.sailFar(ship, 240 * 10);
        Check.same("up to 60", ship.tired(0) + " " + ship.tired(1), "60 55");
        Voyage.sailFar(ship, 240);
        Check.same("not more", ship.tired(0) + " " + ship.tired(1), "60 60");
        Voyage.sailFar(ship, 240);
        Check.same("nor then", ship.tired(0) + " " + ship.tired(1), "60 60");
        for (int wrong : new int[] {-1, 2, Integer.MIN_VALUE, Integer.MAX_VALUE}) {
            Check.refused("tired(" + wrong + ")", ship, INDEX, () -> ship.tired(wrong));
        }
    }

    private static void promise12sick() {
        SquareRig ship = new SquareRig();
        ship.sail(1439);
        Check.same("no day is over", ship.sick(0) + " " + ship.sick(1), "0 0");
        ship.sail(1);
        Check.same("one day", ship.sick(0) + " " + ship.sick(1), "1 1");
        Voyage.sailFar(ship, 1440 * 10);
        Check.same("11 days", ship.sick(0) + " " + ship.sick(1), "11 11");
        Check.same("one is left", ship.free(), 1);
        Voyage.sailFar(ship, 1440 * 2);
        Check.same("13 days", ship.sick(0) + " " + ship.sick(1), "12 12");
        Check.same("none is left", ship.free(), 0);
        ship.stow(true, 500);
        ship.stow(false, 500);
        Voyage.sailFar(ship, 1440 * 3);
        Check.same("they recover", ship.sick(0) + " " + ship.sick(1), "9 9");
        Voyage.sailFar(ship, 1440 * 12);
        Check.same("all", ship.sick(0) + " " + ship.sick(1), "0 0");
        for (int wrong : new int[] {-1, 2, Integer.MIN_VALUE, Integer.MAX_VALUE}) {
            Check.refused("sick(" + wrong + ")", ship, INDEX, () -> ship.sick(wrong));
        }
    }
}
