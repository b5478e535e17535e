import java.util.Random;

/** All promises together: voyages by chance, always the same ones, compared with a plain ship. */
public final class ModelTest {
    private static final char[] KINDS = {'s', 's', 's', 'b', 'b', 'm', 'r'};

    private final Random chance;
    private final SquareRig ship = new SquareRig();
    private final PlainShip plain = new PlainShip();
    private final int mood;

    private ModelTest(int seed) {
        chance = new Random(seed);
        mood = seed % 5;
    }

    public static void main(String[] args) {
        for (int seed = 0; seed < 250; seed++) {
            ModelTest voyage = new ModelTest(seed);
            int calls = seed % 10 == 0 ? 480 : 150;
            for (int call = 0; call < calls; call++) {
                voyage.step();
                voyage.compare("voyage " + seed + ", call " + call);
            }
            Check.same("isSame of the voyage " + seed, voyage.ship.isSame(), true);
        }
        Check.end();
    }

    private int upTo(int most) {
        return chance.nextInt(most + 1);
    }

    private void step() {
        int what = upTo(99);
        if (what < 15) {
            wind();
        } else if (what < 18) {
            current();
        } else if (what < 25) {
            int helm = upTo(6) - 3;
            Check.same("helm", ship.helm(helm), plain.helm);
            plain.helm = helm;
        } else if (what < 55) {
            order();
        } else if (what < 58) {
            belay();
        } else if (what < 63) {
            boolean all = upTo(2) > 0;
            Check.same("callAll", ship.callAll(all), plain.all);
            plain.all = all;
        } else if (what < 67) {
            stow();
        } else if (what < 68) {
            jettison();
        } else if (what < 69) {
            Check.same("noon", ship.noon(), plain.north - plain.reckonedNorth);
            plain.reckonedNorth = plain.north;
        } else {
            sail(what);
        }
    }

    private void wind() {
        int from = mood == 0 ? upTo(31) : Math.floorMod(plain.heading + 4 + upTo(14) + 10 * upTo(1), 32);
        int strength = mood == 1 ? 8 + upTo(4) : upTo(12);
        Check.same("wind", ship.wind(from, strength), plain.wind);
        plain.from = from;
        plain.wind = strength;
    }

    private void current() {
        int east = upTo(2) * (upTo(200) - 100);
        int north = upTo(2) * (upTo(200) - 100);
        Check.same("current", ship.current(east, north), plain.currentEast != 0 || plain.currentNorth != 0);
        plain.currentEast = east;
        plain.currentNorth = north;
    }

    private void order() {
        char kind = KINDS[upTo(KINDS.length - 1)];
        int what = kind == 's' || kind == 'm' ? upTo(8) : upTo(2);
        int how = kind == 's' ? Math.min(2, upTo(4)) : kind == 'b' ? upTo(8) - 4 : 0;
        if (kind == 'b' && upTo(3) > 0) {
            how = plain.best();
        }
        if (plain.orders.size() == 100) {
            int braced = how;
            Check.raises("order", IllegalStateException.class, () -> ship.order(kind, what, braced));
        } else {
            Check.same("order", ship.order(kind, what, how), plain.orders.size());
            plain.orders.add(new int[] {kind, what, how, plain.minute, 'w', 0});
        }
    }

    private void belay() {
        int number = plain.orders.size() - upTo(3);
        if (number < 0 || number >= plain.orders.size()) {
            Check.raises("belay", IndexOutOfBoundsException.class, () -> ship.belay(number));
        } else if (plain.orders.get(number)[4] != 'w') {
            Check.raises("belay", UnsupportedOperationException.class, () -> ship.belay(number));
        } else {
            plain.orders.get(number)[4] = 'x';
            int waiting = 0;
            for (int[] order : plain.orders) {
                waiting += order[4] == 'w' ? 1 : 0;
            }
            Check.same("belay", ship.belay(number), waiting);
        }
    }

    private void stow() {
        int kind = upTo(1);
        int units = 1 + upTo(mood == 2 ? 30 : 120);
        if (plain.casks.size() == 20) {
            Check.raises("stow", IllegalStateException.class, () -> ship.stow(kind == 1, units));
        } else {
            plain.casks.add(new int[] {kind, units});
            Check.same("stow", ship.stow(kind == 1, units), plain.casks.size());
        }
    }

    private void jettison() {
        if (plain.casks.isEmpty()) {
            Check.raises("jettison", java.util.NoSuchElementException.class, () -> ship.jettison());
        } else {
            Check.same("jettison", ship.jettison(), plain.casks.remove(plain.casks.size() - 1)[1]);
        }
    }

    private void sail(int what) {
        int minutes = what < 85 ? 1 + upTo(5) : what < 97 ? 1 + upTo(100) : 1 + upTo(1499);
        plain.sail(minutes);
        Check.same("sail", ship.sail(minutes), plain.minute);
    }

    private void compare(String where) {
        Check.same("minute, " + where, ship.minute(), plain.minute);
        Check.same("heading, " + where, ship.heading(), plain.heading);
        Check.same("speed, " + where, ship.speed(), plain.speed);
        Check.same("east, " + where, ship.east(), plain.east);
        Check.same("north, " + where, ship.north(), plain.north);
        Check.same("off, " + where, ship.off(), plain.off());
        Check.same("best, " + where, ship.best(), plain.best());
        Check.same("reckonedEast, " + where, ship.reckonedEast(), plain.reckonedEast);
        Check.same("reckonedNorth, " + where, ship.reckonedNorth(), plain.reckonedNorth);
        Check.same("watch, " + where, ship.watch(), plain.turn);
        Check.same("free, " + where, ship.free(), plain.free());
        for (int watch = 0; watch < 2; watch++) {
            Check.same("tired, " + where, ship.tired(watch), plain.tired[watch]);
            Check.same("sick, " + where, ship.sick(watch), plain.sick[watch]);
        }
        for (int mast = 0; mast < 3; mast++) {
            Check.same("braced, " + where, ship.braced(mast), plain.braced[mast]);
            Check.same("isSprung, " + where, ship.isSprung(mast), plain.sprung[mast]);
        }
        compareSails(where);
        for (int i = 0; i < plain.orders.size(); i++) {
            Check.same("state, " + where, (int) ship.state(i), plain.orders.get(i)[4]);
        }
        for (int i = 0; i < plain.casks.size(); i++) {
            Check.same("left, " + where, ship.left(i), plain.casks.get(i)[1]);
        }
        Check.same("lines, " + where, ship.lines(), plain.log.size());
        for (int i = 0; i < plain.log.size(); i++) {
            Check.same("line, " + where, (int) ship.line(i), plain.log.get(i)[0]);
            Check.same("lineMinute, " + where, ship.lineMinute(i), plain.log.get(i)[1]);
        }
    }

    private void compareSails(String where) {
        int set = 0;
        int whole = 0;
        int sum = 0;
        for (int sail = 0; sail < 9; sail++) {
            Check.same("spread, " + where, ship.spread(sail), plain.parted[sail] ? -1 : plain.spread[sail]);
            Check.same("strength, " + where, ship.strength(sail), plain.rope[sail]);
            Check.same("force, " + where, ship.force(sail), plain.force(sail));
            set += plain.spread[sail] > 0 ? 1 : 0;
            whole += plain.parted[sail] ? 0 : 1;
            sum += plain.parted[sail] ? 0 : plain.rope[sail];
        }
        Check.same("setShare, " + where, ship.setShare(), (float) set / 9.0f);
        if (whole == 0) {
            Check.raises("meanStrength, " + where, ArithmeticException.class, () -> ship.meanStrength());
        } else {
            Check.same("meanStrength, " + where, ship.meanStrength(), (double) sum / (double) whole);
        }
    }
}
