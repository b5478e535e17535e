/** 'Log' of the document's terms, the reckoning and noon, sentence by sentence. */
public final class BookTest {
    private BookTest() {
    }

    public static void main(String[] args) {
        aLineForEach();
        noLineForOthers();
        theLastTwoHundred();
        sideThatIsAnother();
        sideAtFirst();
        sideOfNeither();
        tackUpToEightPoints();
        sideBehindTheTurning();
        pointsBehindTheTurning();
        linesOfOneMinute();
        heavedEachHalfHour();
        knotsAreCut();
        noonIsOfTheLatitude();
        Check.end();
    }

    /** The wind from each of these directions for a minute, and what the log has then. */
    private static void winds(String due, int... from) {
        SquareRig ship = new SquareRig();
        for (int one : from) {
            ship.wind(one, 0);
            ship.sail(1);
        }
        Check.same("winds", Voyage.log(ship), due);
    }

    /** "'p' for each rope that parts, 'm' for each mast that is sprung, 'd' for each order that is done, 'v' for one in vain" */
    private static void aLineForEach() {
        SquareRig ship = new SquareRig();
        ship.order('m', 0, 0);
        ship.order('s', 7, 1);
        ship.order('b', 0, 2);
        ship.sail(30);
        Check.same("orders", Voyage.log(ship), "d3 d4 v21");
        SquareRig ropes = Voyage.rigged("000220000", 0, 3, 0);
        ropes.wind(10, 12);
        ropes.sail(1);
        Check.same("two ropes", Voyage.log(ropes).substring(Voyage.log(ropes).indexOf("p")), "p40 p40");
        SquareRig mast = Voyage.rigged("000222000", 0, 0, 0);
        mast.wind(16, 11);
        mast.sail(1);
        Check.same("a mast", Voyage.log(mast).substring(Voyage.log(mast).indexOf("m")), "m40");
    }

    private static void noLineForOthers() {
        SquareRig ship = new SquareRig();
        ship.order('s', 0, 1);
        ship.belay(0);
        ship.wind(5, 3);
        ship.wind(27, 3);
        ship.helm(2);
        ship.current(1, 1);
        ship.callAll(true);
        ship.stow(true, 5);
        ship.jettison();
        ship.noon();
        Check.same("none at once", ship.lines(), 0);
        ship.sail(1500);
        Check.same("none by a day", ship.lines(), 0);
        ship.order('r', 0, 0);
        ship.sail(100);
        Check.same("none before an order is done", ship.lines(), 0);
    }

    /** "Of more than 200, the last ones are kept." */
    private static void theLastTwoHundred() {
        for (int lines : new int[] {199, 200, 201, 202}) {
            SquareRig ship = new SquareRig();
            ship.wind(1, 0);
            ship.sail(1);
            // 9 points off the bow on the left, and 1 on the right: a 'g' and a 't' in turn, of the minutes 1 to 202.
            for (int i = 1; i <= lines; i++) {
                ship.wind(i % 2 == 1 ? 23 : 1, 0);
                ship.sail(1);
            }
            int gone = Math.max(0, lines - 200);
            Check.same("kept of " + lines, ship.lines(), lines - gone);
            Check.same("the first one of " + lines, ship.line(0) + " " + ship.lineMinute(0), (gone % 2 == 0 ? "g " : "t ") + (1 + gone));
            int last = ship.lines() - 1;
            Check.same("the last one of " + lines, ship.line(last) + " " + ship.lineMinute(last), (lines % 2 == 1 ? "g " : "t ") + lines);
            int beyond = ship.lines();
            Check.raises("none behind it", IndexOutOfBoundsException.class, () -> ship.line(beyond));
            Check.raises("no minute behind it", IndexOutOfBoundsException.class, () -> ship.lineMinute(beyond));
        }
    }

    /** "when .. the wind is on a side, and this is another one than that on which it was .." */
    private static void sideThatIsAnother() {
        winds("t1", 1, 31);
        winds("t1", 31, 1);
        winds("g1", 15, 17);
        winds("g1", 17, 15);
        winds("", 1, 15, 8, 2);
        winds("", 31, 17, 24);
        winds("t1 t2 t3", 1, 31, 1, 31);
    }

    /** "on which it was behind the turning of the last minute in which it was on one": at first there is none. */
    private static void sideAtFirst() {
        winds("", 1);
        winds("", 31);
        winds("", 16, 17);
        winds("", 0, 16, 0, 15);
        winds("t4", 0, 16, 0, 15, 31);
    }

    /** "the last minute in which it was on one": 0 and 16 points off the bow are on neither. */
    private static void sideOfNeither() {
        winds("", 1, 0, 1);
        winds("", 1, 16, 1);
        winds("t2", 1, 0, 31);
        winds("g2", 1, 16, 17);
        winds("t4", 1, 0, 0, 16, 31);
        // Between the minutes it may come from anywhere.
        SquareRig ship = new SquareRig();
        ship.wind(3, 5);
        ship.sail(1);
        ship.wind(29, 5);
        ship.wind(3, 5);
        ship.sail(1);
        Check.same("no minute was on the left", ship.lines(), 0);
    }

    /** "'t', if it is at most 8 points off the bow, and 'g' otherwise" */
    private static void tackUpToEightPoints() {
        for (int off = 1; off <= 15; off++) {
            winds(off <= 8 ? "t1" : "g1", 1, 32 - off);
            winds(off <= 8 ? "t1" : "g1", 31, off);
            winds(off <= 8 ? "t1" : "g1", 15, 32 - off);
            winds(off <= 8 ? "t1" : "g1", 17, off);
        }
    }

    /**
     * A ship that had the wind from the first direction in the minute 40, turns one point by a helm
     * of 3 or -3 in the minute 51 and has the wind from the last direction then.
     */
    private static void turning(int helm, int first, int last, int off, String due) {
        SquareRig ship = Voyage.rigged("000200000", 0, 0, 0);
        ship.wind(first, 9);
        ship.helm(helm);
        ship.sail(1);
        ship.wind(16, 9);
        ship.sail(10);
        int lines = ship.lines();
        ship.wind(last, 6);
        Check.same("before the turn", ship.heading() + " " + ship.minute(), "0 51");
        ship.sail(1);
        Check.same("behind it", ship.heading() + " " + ship.off(), (helm > 0 ? 1 : 31) + " " + off);
        Check.same("its line", ship.lines() == lines ? "" : ship.line(lines) + "" + ship.lineMinute(lines), due);
    }

    /** "behind the turning of a minute the wind is on a side": by the heading that she has then. */
    private static void sideBehindTheTurning() {
        // From neither side to the other one.
        turning(-3, 15, 16, -15, "g51");
        turning(3, 17, 16, 15, "g51");
        turning(3, 15, 0, -1, "t51");
        turning(-3, 17, 0, 1, "t51");
        // From the other side to neither.
        turning(3, 15, 17, 16, "");
        turning(-3, 17, 15, 16, "");
        turning(-3, 15, 31, 0, "");
        turning(3, 17, 1, 0, "");
        // From the same side to itself.
        turning(3, 15, 16, 15, "");
        turning(-3, 17, 16, -15, "");
    }

    /** "if it is at most 8 points off the bow": by that heading too. */
    private static void pointsBehindTheTurning() {
        turning(-3, 15, 32 - 9, -8, "t51");
        turning(3, 15, 32 - 8, -9, "g51");
        turning(3, 17, 9, 8, "t51");
        turning(-3, 17, 8, 9, "g51");
    }

    /** "with their minutes": all that happens in one minute, in its sequence. */
    private static void linesOfOneMinute() {
        SquareRig ship = Voyage.rigged("222200020", 3, 3, 0);
        String before = Voyage.log(ship);
        ship.wind(31, 0);
        ship.order('m', 8, 0);
        ship.sail(18);
        ship.order('b', 2, 1);
        ship.sail(3);
        Check.same("none yet", Voyage.log(ship), before);
        ship.wind(10, 11);
        ship.sail(1);
        Check.same("all of one minute", Voyage.log(ship).substring(before.length()), " v61 d61 p61 m61 g61");
    }

    /** "If it can be divided by 30 then, the log is heaved" */
    private static void heavedEachHalfHour() {
        SquareRig ship = Voyage.headed(0);
        Check.same("not heaved at less than a knot", ship.minute() + " " + ship.reckonedNorth(), "52 0");
        ship.sail(7);
        Check.same("not in 59", ship.minute() + " " + ship.reckonedNorth(), "59 0");
        ship.sail(1);
        Check.same("in 60", ship.minute() + " " + ship.reckonedNorth(), "60 60000");
        ship.sail(29);
        Check.same("not in 89", ship.minute() + " " + ship.reckonedNorth(), "89 60000");
        ship.sail(1);
        Check.same("in 90", ship.minute() + " " + ship.reckonedNorth(), "90 120000");
        // The speed and the heading of that minute count, and not those before.
        ship.wind(16, 0);
        ship.sail(30);
        Check.same("she lies still then", ship.speed() + " " + ship.reckonedNorth(), "0 120000");
        ship.wind(16, 9);
        ship.sail(18);
        ship.helm(3);
        ship.sail(12);
        Check.same("she has just turned", ship.minute() + " " + ship.heading() + " " + ship.speed(), "150 2 24");
        Check.same("by the heading then", ship.reckonedEast() + " " + ship.reckonedNorth(), 600 * 38 + " " + (120000 + 600 * 92));
    }

    /** "30 times the knots, the speed divided by 10, cut, times 10" */
    private static void knotsAreCut() {
        knots("000001000", 16, 0, 0);
        knots("000002000", 16, 9, 9);
        knots("000002000", 16, 10, 10);
        knots("000020000", 16, 8, 19);
        knots("000022000", 16, 6, 20);
        knots("000002000", 0, 6, -9);
        knots("002000000", 0, 9, -10);
        knots("000020000", 0, 5, -18);
        knots("000200000", 0, 5, -20);
    }

    private static void knots(String spreads, int from, int strength, int speed) {
        SquareRig ship = Voyage.rigged(spreads, 0, 0, 0);
        ship.sail(20);
        ship.wind(from, strength);
        ship.sail(30);
        Check.same("speed of " + spreads, ship.speed(), speed);
        int knots = speed < 0 ? -(-speed / 10) : speed / 10;
        Check.same("reckoned by " + speed, ship.reckonedEast() + " " + ship.reckonedNorth(), "0 " + 30 * knots * 10 * 100);
    }

    /** "the reckoned place is as far to the north as the ship is then": to the east it stays. */
    private static void noonIsOfTheLatitude() {
        SquareRig ship = new SquareRig();
        Check.same("a new ship", ship.noon() + " " + ship.reckonedNorth(), "0 0");
        ship.current(-50, 70);
        ship.sail(10);
        Check.same("the ship's less the reckoned one", ship.noon(), 700L);
        Check.same("the reckoned place", ship.reckonedEast() + " " + ship.reckonedNorth(), "0 700");
        Check.same("the ship stays", ship.east() + " " + ship.north(), "-500 700");
        Check.same("once more", ship.noon(), 0L);
        ship.current(0, -9999);
        ship.sail(1);
        Check.same("too far to the north", ship.noon() + " " + ship.reckonedNorth(), "-9999 -9299");
    }
}
