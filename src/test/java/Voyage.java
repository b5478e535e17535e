/** What the tests do with a ship again and again. */
final class Voyage {
    private static final int[] NORTH = {100, 98, 92, 83, 71, 56, 38, 20, 0};

    private Voyage() {
    }

    /** The part of a direction to the north, by mirrors as the document says. */
    static int northPart(int direction) {
        int d = Math.floorMod(direction, 32);
        if (d > 16) {
            d = 32 - d;
        }
        return d > 8 ? -NORTH[16 - d] : NORTH[d];
    }

    static int eastPart(int direction) {
        return northPart(direction - 8);
    }

    /** Gives an order and sails on, minute by minute, until it is done, in vain, or 200 minutes are over. */
    static char give(SquareRig ship, char kind, int what, int how) {
        int order = ship.order(kind, what, how);
        for (int i = 0; i < 200 && (ship.state(order) == 'w' || ship.state(order) == 'b'); i++) {
            ship.sail(1);
        }
        return ship.state(order);
    }

    /** A ship in a calm, with these sails full and all yards braced like this. */
    static SquareRig under(int braced, int... sails) {
        SquareRig ship = new SquareRig();
        ship.callAll(true);
        for (int mast = 0; mast < 3; mast++) {
            ship.order('b', mast, braced);
        }
        for (int sail : sails) {
            ship.order('s', sail, 2);
        }
        ship.sail(20);
        ship.callAll(false);
        return ship;
    }

    /**
     * A ship in a calm, heading north in the minute 40: each sail set as its digit says, and the
     * yards of the three masts braced like this.
     */
    static SquareRig rigged(String spreads, int fore, int main, int mizzen) {
        SquareRig ship = new SquareRig();
        ship.callAll(true);
        ship.order('b', 0, fore);
        ship.order('b', 1, main);
        ship.order('b', 2, mizzen);
        for (int sail = 0; sail < 9; sail++) {
            if (spreads.charAt(sail) != '0') {
                ship.order('s', sail, spreads.charAt(sail) - '0');
            }
        }
        ship.sail(40);
        ship.callAll(false);
        return ship;
    }

    /** A ship that runs at 24 tenths of a knot before a wind of 9 on this heading, under the sail 3 alone. */
    static SquareRig headed(int heading) {
        SquareRig ship = rigged("000200000", 0, 0, 0);
        ship.wind(16, 9);
        ship.sail(12);
        ship.helm(heading <= 16 ? 3 : -3);
        int now = 0;
        for (int i = 0; i < 150 && now != heading; i++) {
            ship.sail(1);
            if (ship.heading() != now) {
                now = ship.heading();
                ship.wind((now + 16) % 32, 9);
            }
        }
        ship.helm(0);
        return ship;
    }

    static int strain(SquareRig ship) {
        int strain = 0;
        for (int sail = 0; sail < 9; sail++) {
            strain += Math.abs(ship.force(sail));
        }
        return strain;
    }

    static void sailFar(SquareRig ship, int minutes) {
        int left = minutes;
        while (left > 0) {
            int now = Math.min(left, 1500);
            ship.sail(now);
            left -= now;
        }
    }

    static String log(SquareRig ship) {
        StringBuilder log = new StringBuilder();
        for (int i = 0; i < ship.lines(); i++) {
            log.append(ship.line(i)).append(ship.lineMinute(i)).append(' ');
        }
        return log.toString().trim();
    }

    /** All that can be asked of a ship without changing her. */
    static String facts(SquareRig ship) {
        StringBuilder all = new StringBuilder(body(ship)).append(" orders ");
        try {
            for (int order = 0; order < 200; order++) {
                all.append(ship.state(order));
            }
        } catch (IndexOutOfBoundsException e) {
            all.append(" casks ");
        }
        return all.append(casks(ship)).append("log ").append(log(ship)).toString();
    }

    /** What can be asked of a ship in few calls, so that her 512 last: all but the orders, casks and lines. */
    static String body(SquareRig ship) {
        StringBuilder all = new StringBuilder();
        all.append("minute ").append(ship.minute()).append(" heading ").append(ship.heading());
        all.append(" speed ").append(ship.speed()).append(" off ").append(ship.off());
        all.append(" best ").append(ship.best()).append(" at ").append(ship.east()).append(',').append(ship.north());
        all.append(" reckoned ").append(ship.reckonedEast()).append(',').append(ship.reckonedNorth());
        all.append(" watch ").append(ship.watch()).append(" free ").append(ship.free());
        all.append(" tired ").append(ship.tired(0)).append(',').append(ship.tired(1));
        all.append(" sick ").append(ship.sick(0)).append(',').append(ship.sick(1));
        for (int sail = 0; sail < 9; sail++) {
            all.append(" sail ").append(ship.spread(sail)).append(',').append(ship.strength(sail));
            all.append(',').append(ship.force(sail));
        }
        for (int mast = 0; mast < 3; mast++) {
            all.append(" mast ").append(ship.braced(mast)).append(',').append(ship.isSprung(mast));
        }
        all.append(" lines ").append(ship.lines()).append(" share ").append(ship.setShare()).append(" mean ");
        try {
            all.append(ship.meanStrength());
        } catch (ArithmeticException e) {
            all.append("none");
        }
        return all.toString();
    }

    /** What is in each cask, from the lowest one on. */
    static String casks(SquareRig ship) {
        StringBuilder all = new StringBuilder();
        try {
            for (int cask = 0; cask < 30; cask++) {
                all.append(ship.left(cask)).append(' ');
            }
        } catch (IndexOutOfBoundsException e) {
            return all.toString();
        }
        return all.toString();
    }

    /** How each sail is set, from the sail 0 on. */
    static String spreads(SquareRig ship) {
        StringBuilder all = new StringBuilder();
        for (int sail = 0; sail < 9; sail++) {
            all.append(ship.spread(sail)).append(sail < 8 ? " " : "");
        }
        return all.toString();
    }

    /** The states of the first orders. */
    static String states(SquareRig ship, int orders) {
        StringBuilder all = new StringBuilder();
        for (int i = 0; i < orders; i++) {
            all.append(ship.state(i));
        }
        return all.toString();
    }
}
