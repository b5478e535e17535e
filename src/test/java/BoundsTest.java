import java.util.NoSuchElementException;
import java.util.function.Consumer;
import java.util.function.Supplier;

/**
 * Promises 1 to 37, argument by argument: the least and the most that are accepted, those just
 * outside, and that a refused call changes nothing, also nothing that shows only later.
 */
public final class BoundsTest {
    private static final Class<IllegalArgumentException> ARGUMENT = IllegalArgumentException.class;
    private static final Class<IllegalStateException> STATE = IllegalStateException.class;
    private static final Class<IndexOutOfBoundsException> INDEX = IndexOutOfBoundsException.class;
    private static final Class<UnsupportedOperationException> UNSUPPORTED = UnsupportedOperationException.class;

    private BoundsTest() {
    }

    public static void main(String[] args) {
        promise1isNew();
        promise2wind();
        promise3current();
        promise4helm();
        promise5order();
        promise5orderOfWhat();
        promise5orderHow();
        promise5orderTheHundredth();
        promise6belay();
        promise7state();
        promise11and12watches();
        promise13stow();
        promise13stowTheTwentieth();
        promise14left();
        promise15jettison();
        promise16sail();
        promise23to25sails();
        promise26and27masts();
        promise33and34lines();
        promise36meanStrength();
        Check.end();
    }

    private interface Call {
        Object on(SquareRig ship, int number);
    }

    /** A call takes each number from the least to the most, and none outside. */
    private static void takes(String name, Supplier<SquareRig> made, Class<? extends RuntimeException> due,
            int least, int most, Call call) {
        for (int number : new int[] {least, least + 1, most - 1, most}) {
            if (number >= least && number <= most) {
                SquareRig ship = made.get();
                String got = "an answer";
                try {
                    call.on(ship, number);
                } catch (RuntimeException e) {
                    got = e.toString();
                }
                Check.same(name + " of " + number, got, "an answer");
            }
        }
        refusesAll(name, made, due, call, least - 1, most + 1, Integer.MIN_VALUE, Integer.MAX_VALUE);
    }

    private static void refusesAll(String name, Supplier<SquareRig> made, Class<? extends RuntimeException> due,
            Call call, int... numbers) {
        for (int number : numbers) {
            refuses(name + " of " + number, made, due, ship -> call.on(ship, number));
        }
    }

    /** A call is refused, twice, and its ship stays the same as one that never heard it. */
    private static void refuses(String what, Supplier<SquareRig> made, Class<? extends RuntimeException> due,
            Consumer<SquareRig> call) {
        SquareRig asked = made.get();
        SquareRig other = made.get();
        Check.raises(what, due, () -> call.accept(asked));
        Check.raises(what + ", again", due, () -> call.accept(asked));
        Check.same("behind " + what, Voyage.body(asked), Voyage.body(other));
        Check.same("hidden behind " + what, goOn(asked), goOn(other));
        Check.same("later behind " + what, Voyage.body(asked), Voyage.body(other));
        Check.same("sailed again behind " + what, asked.isSame(), true);
    }

    /** Sails on as she was told, and hears what she was told before. */
    private static String goOn(SquareRig ship) {
        ship.sail(7);
        ship.sail(300);
        StringBuilder all = new StringBuilder(Voyage.body(ship));
        all.append(ship.wind(7, 3)).append(' ').append(ship.helm(2)).append(' ');
        all.append(ship.current(4, -4)).append(' ').append(ship.callAll(true)).append(' ');
        all.append(tryStow(ship)).append(' ').append(tryOrder(ship)).append(' ');
        ship.sail(1200);
        all.append(ship.noon());
        return all.toString();
    }

    private static int tryStow(SquareRig ship) {
        try {
            return ship.stow(false, 30);
        } catch (IllegalStateException e) {
            return -1;
        }
    }

    private static int tryOrder(SquareRig ship) {
        try {
            return ship.order('s', 4, 1);
        } catch (IllegalStateException e) {
            return -1;
        }
    }

    private static SquareRig fresh() {
        return new SquareRig();
    }

    /** A ship under way, with all that can be told once told, and 10 orders in all states. */
    private static SquareRig underWay() {
        SquareRig ship = Voyage.rigged("000201001", 0, 3, -1);
        ship.wind(10, 6);
        ship.current(7, -3);
        ship.helm(-1);
        ship.stow(true, 40);
        ship.stow(false, 40);
        ship.order('m', 2, 0);
        ship.order('r', 1, 0);
        ship.sail(30);
        ship.order('s', 6, 2);
        ship.order('b', 1, 2);
        ship.belay(8);
        return ship;
    }

    private static SquareRig withOrders(int orders) {
        SquareRig ship = underWay();
        for (int i = 10; i < orders; i++) {
            ship.order("sbmr".charAt(i % 4), i % 3, 0);
        }
        return ship;
    }

    private static SquareRig withCasks(int casks) {
        SquareRig ship = underWay();
        for (int i = 2; i < casks; i++) {
            ship.stow(i % 2 == 0, 10 + i);
        }
        return ship;
    }

    /** A ship whose log has so many lines, and had more if that are 200. */
    private static SquareRig withLines(int lines) {
        SquareRig ship = new SquareRig();
        int changes = lines == 200 ? 205 : lines;
        ship.wind(1, 0);
        ship.sail(1);
        for (int i = 0; i < changes; i++) {
            ship.wind(i % 2 == 0 ? 31 : 1, 0);
            ship.sail(1);
        }
        return ship;
    }

    private static void promise1isNew() {
        SquareRig ship = new SquareRig();
        Check.same("lies still, at 0, 0", ship.speed() + " " + ship.east() + " " + ship.north(), "0 0 0");
        Check.same("all furled", Voyage.spreads(ship), "0 0 0 0 0 0 0 0 0");
        Check.same("heads north, in the minute 0", ship.heading() + " " + ship.minute(), "0 0");
        Check.same("no orders, casks, lines", ship.lines() + Voyage.casks(ship), "0");
        Check.same("no wind", ship.wind(0, 1), 0);
        Check.same("the first order", ship.order('s', 0, 0), 0);
        Check.same("the first cask", ship.stow(true, 1), 1);
    }

    private static void promise2wind() {
        takes("wind from", BoundsTest::underWay, ARGUMENT, 0, 31, (ship, from) -> ship.wind(from, 5));
        takes("wind strength", BoundsTest::underWay, ARGUMENT, 0, 12, (ship, strength) -> ship.wind(3, strength));
        refuses("wind of both", BoundsTest::underWay, ARGUMENT, ship -> ship.wind(-1, 13));
        refuses("a new ship's wind", BoundsTest::fresh, ARGUMENT, ship -> ship.wind(32, 12));
        for (int strength = 0; strength <= 12; strength++) {
            SquareRig ship = new SquareRig();
            ship.wind(31, strength);
            Check.same("the strength before", ship.wind(0, 0), strength);
            Check.same("then none", ship.wind(0, 12), 0);
        }
    }

    private static void promise3current() {
        takes("current east", BoundsTest::underWay, ARGUMENT, -9999, 9999, (ship, east) -> ship.current(east, 1));
        takes("current north", BoundsTest::underWay, ARGUMENT, -9999, 9999, (ship, north) -> ship.current(1, north));
        refuses("current of both", BoundsTest::underWay, ARGUMENT, ship -> ship.current(-10000, 10000));
        int[][] currents = {{0, 0, 0}, {1, 0, 1}, {-1, 0, 1}, {0, 1, 1}, {0, -1, 1}, {1, -1, 1}, {9999, -9999, 1}};
        for (int[] one : currents) {
            SquareRig ship = new SquareRig();
            Check.same("none at first", ship.current(one[0], one[1]), false);
            ship.sail(1);
            Check.same("by it", ship.east() + " " + ship.north(), one[0] + " " + one[1]);
            Check.same("whether there was one", ship.current(0, 0), one[2] == 1);
            ship.sail(1);
            Check.same("then by none", ship.east() + " " + ship.north(), one[0] + " " + one[1]);
        }
    }

    private static void promise4helm() {
        takes("helm", BoundsTest::underWay, ARGUMENT, -3, 3, (ship, helm) -> ship.helm(helm));
        for (int helm = -3; helm <= 3; helm++) {
            SquareRig ship = new SquareRig();
            Check.same("amidships at first", ship.helm(helm), 0);
            Check.same("the helm before", ship.helm(-helm), helm);
            Check.same("the other side", ship.helm(0), -helm);
        }
    }

    private static void promise5order() {
        for (char kind = 0; kind < 256; kind++) {
            char one = kind;
            if ("sbmr".indexOf(one) < 0) {
                refuses("the kind " + (int) one, BoundsTest::fresh, ARGUMENT, ship -> ship.order(one, 0, 0));
            } else {
                Check.same("the kind " + one, new SquareRig().order(one, 0, 0), 0);
            }
        }
        for (char kind : new char[] {'B', 'S', 's' + 256, 'b' + 256, Character.MAX_VALUE}) {
            refuses("the kind " + (int) kind, BoundsTest::underWay, ARGUMENT, ship -> ship.order(kind, 0, 0));
        }
    }

    private static void promise5orderOfWhat() {
        takes("sail to set", BoundsTest::underWay, ARGUMENT, 0, 8, (ship, sail) -> ship.order('s', sail, 1));
        takes("sail to mend", BoundsTest::underWay, ARGUMENT, 0, 8, (ship, sail) -> ship.order('m', sail, 0));
        takes("mast to brace", BoundsTest::underWay, ARGUMENT, 0, 2, (ship, mast) -> ship.order('b', mast, 1));
        takes("mast to rig", BoundsTest::underWay, ARGUMENT, 0, 2, (ship, mast) -> ship.order('r', mast, 0));
    }

    private static void promise5orderHow() {
        takes("setting to", BoundsTest::underWay, ARGUMENT, 0, 2, (ship, how) -> ship.order('s', 8, how));
        takes("bracing to", BoundsTest::underWay, ARGUMENT, -4, 4, (ship, how) -> ship.order('b', 2, how));
        takes("mending to", BoundsTest::underWay, ARGUMENT, 0, 0, (ship, how) -> ship.order('m', 8, how));
        takes("rigging to", BoundsTest::underWay, ARGUMENT, 0, 0, (ship, how) -> ship.order('r', 2, how));
    }

    private static void promise5orderTheHundredth() {
        Supplier<SquareRig> full = () -> withOrders(100);
        Check.same("the hundredth", withOrders(99).order('s', 8, 2), 99);
        refuses("one more", full, STATE, ship -> ship.order('s', 8, 2));
        refuses("one more to brace", full, STATE, ship -> ship.order('b', 2, -4));
        // Where both apply, the first one of the document is thrown.
        refuses("no such kind of 100", full, ARGUMENT, ship -> ship.order('x', 0, 0));
        refuses("no such sail of 100", full, ARGUMENT, ship -> ship.order('s', 9, 0));
        refuses("no such mast of 100", full, ARGUMENT, ship -> ship.order('r', 3, 0));
        refuses("no such how of 100", full, ARGUMENT, ship -> ship.order('b', 0, 5));
        refuses("how to mend of 100", full, ARGUMENT, ship -> ship.order('m', 0, 1));
        // Those that are done, in vain or taken back have their numbers still.
        SquareRig over = withOrders(100);
        over.belay(99);
        over.callAll(true);
        over.sail(1500);
        over.sail(1500);
        Check.same("some of each", Voyage.states(over, 10) + over.state(99), "ddddddvvxdx");
        Check.raises("and no room", STATE, () -> over.order('s', 0, 0));
    }

    private static void promise6belay() {
        refusesAll("belay of none", BoundsTest::fresh, INDEX, (ship, order) -> ship.belay(order), 0, -1, 1, 99, 100);
        refusesAll("belay outside", BoundsTest::underWay, INDEX, (ship, order) -> ship.belay(order),
            -1, 10, 11, 99, 100, Integer.MIN_VALUE, Integer.MAX_VALUE);
        refusesAll("belay outside 100", () -> withOrders(100), INDEX, (ship, order) -> ship.belay(order),
            -1, 100, Integer.MIN_VALUE, Integer.MAX_VALUE);
        Check.same("the states", Voyage.states(underWay(), 10), "ddddddvbxw");
        for (int order = 0; order < 9; order++) {
            int one = order;
            refuses("belay of " + one, BoundsTest::underWay, UNSUPPORTED, ship -> ship.belay(one));
        }
        Check.same("one that waits", underWay().belay(9), 0);
        SquareRig ship = new SquareRig();
        for (int i = 0; i < 100; i++) {
            ship.order('s', i % 9, 1);
        }
        for (int i = 0; i < 100; i++) {
            Check.same("how many wait", ship.belay(i * 37 % 100), 99 - i);
        }
        ship.sail(9);
        Check.same("none begins", ship.free() + " " + ship.lines() + " " + Voyage.spreads(ship), "12 0 0 0 0 0 0 0 0 0 0");
    }

    private static void promise7state() {
        refusesAll("state of none", BoundsTest::fresh, INDEX, (ship, order) -> ship.state(order), 0, -1, 1, 99);
        takes("state", BoundsTest::underWay, INDEX, 0, 9, (ship, order) -> ship.state(order));
        takes("state of 100", () -> withOrders(100), INDEX, 0, 99, (ship, order) -> ship.state(order));
    }

    private static void promise11and12watches() {
        takes("tired", BoundsTest::underWay, INDEX, 0, 1, (ship, watch) -> ship.tired(watch));
        takes("sick", BoundsTest::underWay, INDEX, 0, 1, (ship, watch) -> ship.sick(watch));
    }

    private static void promise13stow() {
        takes("water", BoundsTest::underWay, ARGUMENT, 1, 500, (ship, units) -> ship.stow(true, units));
        takes("food", BoundsTest::underWay, ARGUMENT, 1, 500, (ship, units) -> ship.stow(false, units));
        for (int units : new int[] {1, 500}) {
            SquareRig ship = new SquareRig();
            ship.stow(true, units);
            Check.same("all is in it", ship.left(0), units);
        }
    }

    private static void promise13stowTheTwentieth() {
        Supplier<SquareRig> full = () -> withCasks(20);
        Check.same("the twentieth", withCasks(19).stow(true, 5), 20);
        refuses("one more", full, STATE, ship -> ship.stow(true, 5));
        refuses("one more of food", full, STATE, ship -> ship.stow(false, 500));
        refuses("none of 20", full, ARGUMENT, ship -> ship.stow(true, 0));
        refuses("too much of 20", full, ARGUMENT, ship -> ship.stow(false, 501));
        // A cask that is empty lies there too.
        SquareRig empty = new SquareRig();
        for (int i = 0; i < 20; i++) {
            empty.stow(false, 1);
        }
        empty.sail(1440);
        Check.same("all empty", Voyage.casks(empty), "0 ".repeat(20));
        Check.raises("and no room", STATE, () -> empty.stow(true, 5));
        empty.jettison();
        Check.same("room for one", empty.stow(true, 5), 20);
    }

    private static void promise14left() {
        refusesAll("left of none", BoundsTest::fresh, INDEX, (ship, cask) -> ship.left(cask), 0, -1, 1, 19);
        takes("left", BoundsTest::underWay, INDEX, 0, 1, (ship, cask) -> ship.left(cask));
        takes("left of 20", () -> withCasks(20), INDEX, 0, 19, (ship, cask) -> ship.left(cask));
    }

    private static void promise15jettison() {
        refuses("jettison of none", BoundsTest::fresh, NoSuchElementException.class, ship -> ship.jettison());
        refuses("jettison of none left", () -> {
            SquareRig ship = underWay();
            ship.jettison();
            ship.jettison();
            return ship;
        }, NoSuchElementException.class, ship -> ship.jettison());
        SquareRig ship = withCasks(20);
        for (int cask = 19; cask >= 0; cask--) {
            Check.same("the uppermost", ship.jettison(), cask < 2 ? 40 : 10 + cask);
        }
    }

    private static void promise16sail() {
        takes("sail", BoundsTest::underWay, ARGUMENT, 1, 1500, (ship, minutes) -> ship.sail(minutes));
        takes("a new ship's sail", BoundsTest::fresh, ARGUMENT, 1, 1500, (ship, minutes) -> ship.sail(minutes));
        SquareRig ship = new SquareRig();
        Check.same("one minute", ship.sail(1), 1);
        Check.same("and 1500", ship.sail(1500), 1501);
    }

    private static void promise23to25sails() {
        takes("force", BoundsTest::underWay, INDEX, 0, 8, (ship, sail) -> ship.force(sail));
        takes("spread", BoundsTest::underWay, INDEX, 0, 8, (ship, sail) -> ship.spread(sail));
        takes("strength", BoundsTest::underWay, INDEX, 0, 8, (ship, sail) -> ship.strength(sail));
    }

    private static void promise26and27masts() {
        takes("braced", BoundsTest::underWay, INDEX, 0, 2, (ship, mast) -> ship.braced(mast));
        takes("isSprung", BoundsTest::underWay, INDEX, 0, 2, (ship, mast) -> ship.isSprung(mast));
    }

    private static void promise33and34lines() {
        refusesAll("line of none", BoundsTest::fresh, INDEX, (ship, line) -> ship.line(line), 0, -1, 1, 199);
        refusesAll("its minute", BoundsTest::fresh, INDEX, (ship, line) -> ship.lineMinute(line), 0, -1, 1, 199);
        for (int lines : new int[] {1, 2, 199, 200}) {
            Supplier<SquareRig> made = () -> withLines(lines);
            Check.same("so many lines", made.get().lines(), lines);
            takes("line of " + lines, made, INDEX, 0, lines - 1, (ship, line) -> ship.line(line));
            takes("minute of " + lines, made, INDEX, 0, lines - 1, (ship, line) -> ship.lineMinute(line));
        }
    }

    private static void promise36meanStrength() {
        refuses("the mean of none", FiguresTest::partAll, ArithmeticException.class, ship -> ship.meanStrength());
    }
}
