/** Promises 35 to 37: the figures, and the voyage sailed again. */
public final class FiguresTest {
    private FiguresTest() {
    }

    public static void main(String[] args) {
        promise35setShare();
        promise36meanStrength();
        promise37isSame();
        promise37isSameAsksNothing();
        Check.end();
    }

    private static void promise35setShare() {
        SquareRig ship = new SquareRig();
        Check.same("none", ship.setShare(), 0.0f);
        for (int sail = 0; sail < 9; sail++) {
            Voyage.give(ship, 's', sail, 1 + sail % 2);
            Check.same("share", ship.setShare(), (float) (sail + 1) / 9.0f);
        }
        Voyage.give(ship, 's', 4, 0);
        Check.same("one less", ship.setShare(), 8.0f / 9.0f);
        Check.same("a parted one is not set", OrdersTest.torn().setShare(), 0.0f);
    }

    private static void promise36meanStrength() {
        SquareRig ship = new SquareRig();
        Check.same("new ropes", ship.meanStrength(), 900.0);
        SquareRig worn = Voyage.under(3, 3);
        worn.wind(10, 8);
        worn.sail(4);
        Check.same("4 less in all", worn.strength(3) + " " + worn.meanStrength(), "896 " + 8096.0 / 9.0);
        worn.wind(10, 12);
        worn.sail(1);
        Check.same("without the one that parted", worn.strength(3) + " " + worn.meanStrength(), "896 900.0");
        SquareRig none = partAll();
        Check.refused("all have", none, ArithmeticException.class, () -> none.meanStrength());
        Check.same("no sail is set", none.setShare(), 0.0f);
        Voyage.give(none, 'm', 6, 0);
        Check.same("one is mended", none.meanStrength(), 900.0);
        Check.same("and can be sailed again", none.isSame(), true);
    }

    /** A ship all of whose ropes have parted: those of the masts 0 and 1 by springing them. */
    static SquareRig partAll() {
        SquareRig ship = Voyage.under(3, 0, 1, 2, 3, 4, 5, 7);
        ship.sail(10);
        ship.wind(10, 9);
        ship.sail(1);
        ship.wind((10 + ship.heading()) % 32, 11);
        ship.sail(1);
        Check.same("two masts", ship.isSprung(0) + " " + ship.isSprung(1), "true true");
        ship.wind(16, 0);
        ship.callAll(true);
        ship.order('s', 6, 2);
        ship.order('s', 8, 2);
        ship.order('b', 2, 4);
        ship.sail(9);
        // Each is worn down at less than its strength, and then more than it can bear.
        for (int i = 0; i < 150 && (ship.spread(6) != -1 || ship.spread(8) != -1); i++) {
            int off = ship.spread(6) != -1 ? 0 : 7;
            ship.wind((off + ship.heading()) % 32, 12);
            ship.sail(5);
        }
        Check.same("the last two", ship.spread(6) + " " + ship.spread(8), "-1 -1");
        return ship;
    }

    private static void promise37isSame() {
        SquareRig ship = new SquareRig();
        Check.same("a new one", ship.isSame(), true);
        ship.wind(12, 7);
        ship.current(3, -4);
        ship.helm(2);
        ship.callAll(true);
        ship.order('s', 3, 2);
        ship.order('s', 0, 2);
        ship.order('b', 1, 2);
        Check.same("belayed", ship.belay(1), 2);
        Check.same("in the harbour", ship.isSame(), true);
        ship.stow(true, 90);
        ship.stow(false, 90);
        ship.stow(false, 7);
        ship.jettison();
        ship.sail(1500);
        ship.noon();
        Check.same("behind a day", ship.isSame(), true);
        Check.raises("a wrong call", IllegalArgumentException.class, () -> ship.stow(true, 0));
        Check.raises("another", IndexOutOfBoundsException.class, () -> ship.belay(7));
        ship.wind(3, 12);
        ship.sail(300);
        ship.sail(45);
        Check.same("behind a storm", ship.isSame(), true);
        Check.same("asked again", ship.isSame(), true);
        Check.same("a torn one", OrdersTest.torn().isSame(), true);
        Check.same("a sprung one", OrdersTest.sprung().isSame(), true);
    }

    private static void promise37isSameAsksNothing() {
        SquareRig asked = new SquareRig();
        SquareRig other = new SquareRig();
        for (int i = 0; i < 45; i++) {
            tell(asked, i);
            tell(other, i);
            Check.same("same behind " + i, asked.isSame(), true);
            Check.same("nothing is changed", Voyage.facts(asked), Voyage.facts(other));
        }
        Check.raises("too many", IllegalStateException.class, () -> fill(asked));
        Check.raises("too many", IllegalStateException.class, () -> fill(other));
        asked.sail(1500);
        other.sail(1500);
        Check.same("at last", asked.isSame() + " " + Voyage.facts(asked), "true " + Voyage.facts(other));
    }

    private static void tell(SquareRig ship, int i) {
        ship.wind(i * 5 % 32, i % 13);
        ship.helm(i % 7 - 3);
        ship.order('s', i % 9, i % 3);
        ship.order('b', i % 3, i % 9 - 4);
        ship.sail(1 + i * 31 % 200);
        if (i % 10 == 9) {
            ship.noon();
        }
    }

    private static void fill(SquareRig ship) {
        for (int i = 0; i < 101; i++) {
            ship.order('b', 0, 0);
        }
    }
}
