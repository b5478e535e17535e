/** Numbers that become large, go round, or come to the end of an object's 512 calls. */
public final class WrapTest {
    private WrapTest() {
    }

    public static void main(String[] args) {
        placeBeyondInt();
        placeBelowInt();
        reckoningBeyondInt();
        noonBeyondInt();
        minutesOfAllCalls();
        sameBehindAllCalls();
        sameIsAskedInAllCalls();
        sameBehindRefusals();
        sameOfEachKind();
        Check.end();
    }

    private static SquareRig adrift(int east, int north, int voyages) {
        SquareRig ship = new SquareRig();
        ship.current(east, north);
        for (int i = 0; i < voyages; i++) {
            ship.sail(1500);
        }
        return ship;
    }

    /** "long east()" and "long north()": 9999 in each of 214770 minutes is more than an int holds. */
    private static void placeBeyondInt() {
        SquareRig ship = adrift(9999, 9999, 143);
        Check.same("below it", ship.east() + " " + ship.north(), "2144785500 2144785500");
        ship.sail(269);
        Check.same("just below it", ship.east() + " " + ship.north(), "2147475231 2147475231");
        ship.sail(1);
        Check.same("beyond it", ship.east() + " " + ship.north(), "2147485230 2147485230");
        SquareRig far = adrift(9999, 9999, 500);
        Check.same("far beyond it", far.east() + " " + far.north(), "7499250000 7499250000");
        Check.same("the same once more", far.isSame(), true);
    }

    private static void placeBelowInt() {
        SquareRig ship = adrift(-9999, -9999, 150);
        Check.same("below the least int", ship.east() + " " + ship.north(), "-2249775000 -2249775000");
        SquareRig mixed = adrift(-9999, 9999, 450);
        Check.same("each for itself", mixed.east() + " " + mixed.north(), "-6749325000 6749325000");
    }

    /** "long reckonedNorth()": by noon it is as far to the north as the ship, and goes on from there. */
    private static void reckoningBeyondInt() {
        SquareRig ship = adrift(0, 9999, 300);
        Check.same("how wrong", ship.noon(), 4499550000L);
        Check.same("then as far", ship.reckonedNorth(), 4499550000L);
        reckonedOnFromThere();
        SquareRig south = adrift(0, -9999, 300);
        Check.same("to the south", south.noon() + " " + south.reckonedNorth(), "-4499550000 -4499550000");
    }

    private static void reckonedOnFromThere() {
        // 46 * 5 * 8 and 10 * 5 * 2 are 1940, which no rope minds; in the days 150 and 151 that is 1 knot still.
        SquareRig ship = Voyage.rigged("222222222", 0, 0, 0);
        ship.wind(16, 5);
        ship.current(0, 9999);
        for (int i = 0; i < 144; i++) {
            ship.sail(1500);
        }
        ship.noon();
        long north = ship.north();
        Check.same("beyond an int", ship.reckonedNorth() == north && north > 2147483647L, true);
        ship.sail(1500);
        Check.same("one knot", ship.minute() + " " + ship.speed(), "217540 10");
        Check.same("50 times 30 minutes", ship.reckonedNorth() - north, 50L * 30 * 10 * 100);
        Check.same("the ship herself", ship.north() - north, 1500L * (9999 + 10 * 100));
    }

    /** "long noon()": the ship's place less the reckoned one, each far away. */
    private static void noonBeyondInt() {
        SquareRig ship = adrift(0, -9999, 220);
        Check.same("one way", ship.noon(), -3299670000L);
        ship.current(0, 9999);
        for (int i = 0; i < 280; i++) {
            ship.sail(1500);
        }
        Check.same("and the other", ship.noon() + " " + ship.reckonedNorth(), "4199580000 899910000");
    }

    /** The rounds of the watches and the days, for as many minutes as 511 calls can bring. */
    private static void minutesOfAllCalls() {
        SquareRig ship = new SquareRig();
        for (int i = 1; i <= 505; i++) {
            Check.same("the minute", ship.sail(1500), 1500 * i);
        }
        Check.same("the minute at last", ship.minute(), 757500);
        Check.same("the watch", ship.watch(), 757500 / 240 % 2);
        Check.same("tired", ship.tired(0) + " " + ship.tired(1), "0 5");
        Check.same("sick", ship.sick(0) + " " + ship.sick(1), "12 12");
    }

    /** "An object is used for at most 512 calls": all that 511 calls told, and then isSame. */
    private static void sameBehindAllCalls() {
        SquareRig ship = new SquareRig();
        ship.callAll(true);
        ship.order('s', 3, 2);
        ship.order('s', 8, 1);
        ship.order('b', 1, 3);
        for (int i = 4; i < 510; i++) {
            tell(ship, i);
        }
        ship.current(9, 9);
        ship.sail(1);
        Check.same("the last call", ship.isSame(), true);
        SquareRig last = new SquareRig();
        for (int i = 0; i < 510; i++) {
            last.wind(i % 32, i % 13);
        }
        last.stow(true, 500);
        Check.same("a cask by the last one told", last.isSame(), true);
    }

    private static void tell(SquareRig ship, int i) {
        switch (i % 6) {
            case 0: ship.wind(i * 7 % 32, i % 10); break;
            case 1: ship.helm(i % 7 - 3); break;
            case 2: ship.current(i % 50 - 25, 25 - i % 40); break;
            case 3: ship.noon(); break;
            default: ship.sail(1 + i * 13 % 90); break;
        }
    }

    private static void sameIsAskedInAllCalls() {
        SquareRig ship = new SquareRig();
        for (int i = 0; i < 256; i++) {
            tell(ship, i);
            Check.same("asked behind " + i, ship.isSame(), true);
        }
    }

    /** Calls that were refused told her nothing. */
    private static void sameBehindRefusals() {
        SquareRig ship = Voyage.rigged("000200020", 0, 0, 0);
        ship.wind(12, 7);
        for (int i = 0; i < 30; i++) {
            Check.raises("wind", IllegalArgumentException.class, () -> ship.wind(3, 13));
            Check.raises("helm", IllegalArgumentException.class, () -> ship.helm(4));
            Check.raises("current", IllegalArgumentException.class, () -> ship.current(0, 10000));
            Check.raises("order", IllegalArgumentException.class, () -> ship.order('s', 3, 3));
            Check.raises("belay", UnsupportedOperationException.class, () -> ship.belay(0));
            Check.raises("belay", IndexOutOfBoundsException.class, () -> ship.belay(77));
            Check.raises("stow", IllegalArgumentException.class, () -> ship.stow(true, 501));
            Check.raises("jettison", java.util.NoSuchElementException.class, () -> ship.jettison());
            Check.raises("sail", IllegalArgumentException.class, () -> ship.sail(1501));
            ship.sail(11);
        }
        Check.same("the same", ship.isSame(), true);
    }

    /** "the same place, heading and speed, with the same sails, stores and log", whatever was told last. */
    private static void sameOfEachKind() {
        SquareRig ship = new SquareRig();
        Check.same("a new ship", ship.isSame(), true);
        ship.stow(true, 40);
        Check.same("a cask", ship.isSame(), true);
        ship.stow(false, 500);
        ship.jettison();
        Check.same("a cask less", ship.isSame(), true);
        ship.callAll(true);
        ship.order('s', 3, 2);
        ship.order('s', 4, 2);
        ship.order('s', 6, 2);
        ship.belay(1);
        ship.sail(9);
        Check.same("a sail", ship.isSame() + " " + Voyage.spreads(ship), "true 0 0 0 2 0 0 2 0 0");
        ship.wind(14, 8);
        ship.sail(40);
        Check.same("a speed and a heading", ship.isSame() + " " + (ship.speed() > 0), "true true");
        ship.helm(3);
        ship.current(-40, 3);
        ship.sail(300);
        Check.same("a place", ship.isSame(), true);
        ship.noon();
        ship.wind(2, 12);
        ship.sail(1500);
        Check.same("lines", ship.isSame() + " " + (ship.lines() > 3), "true true");
    }
}
