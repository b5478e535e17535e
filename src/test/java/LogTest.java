/** Promises 29 to 34: noon, the reckoning and the log. */
public final class LogTest {
    private static final Class<IndexOutOfBoundsException> INDEX = IndexOutOfBoundsException.class;

    private LogTest() {
    }

    public static void main(String[] args) {
        promise29noon();
        promise30and31reckoning();
        promise30and31knotsAreCut();
        promise30and31roundTheCompass();
        promise32lines();
        promise33line();
        promise33tackAndGybe();
        promise33sequence();
        promise34lineMinute();
        Check.end();
    }

    private static void promise29noon() {
        SquareRig ship = new SquareRig();
        ship.current(11, -7);
        ship.sail(100);
        Check.same("how wrong", ship.noon(), -700L);
        Check.same("reckoned then", ship.reckonedEast() + " " + ship.reckonedNorth(), "0 -700");
        Check.same("not wrong any more", ship.noon(), 0L);
        Check.same("the ship stays", ship.east() + " " + ship.north(), "1100 -700");
        ship.current(0, 5);
        ship.sail(100);
        Check.same("the other way", ship.noon(), 500L);
    }

    private static void promise30and31reckoning() {
        SquareRig ship = Voyage.under(0, 3);
        ship.wind(16, 9);
        ship.sail(9);
        Check.same("not yet", ship.minute() + " " + ship.reckonedNorth(), "29 0");
        ship.sail(1);
        Check.same("20 tenths are 2 knots", ship.speed() + " " + ship.reckonedNorth(), "20 " + 30 * 2 * 10 * 100);
        ship.sail(29);
        Check.same("not yet again", ship.reckonedNorth(), 60000L);
        ship.sail(1);
        Check.same("24 tenths are 2 knots", ship.speed() + " " + ship.reckonedNorth(), "24 120000");
        ship.noon();
        long north = ship.north();
        ship.sail(30);
        Check.same("from noon on", ship.reckonedNorth(), north + 60000);
        ship.wind(0, 5);
        ship.sail(30);
        Check.same("astern, 20 tenths", ship.speed() + " " + (ship.reckonedNorth() - north), "-20 0");
        ship.wind(0, 4);
        ship.sail(30);
        Check.same("astern, 16 tenths are 1 knot", ship.speed() + " " + (ship.reckonedNorth() - north), "-16 -30000");
        ship.wind(16, 0);
        ship.current(500, 500);
        ship.sail(30);
        Check.same("the current is not seen", ship.reckonedEast() + " " + (ship.reckonedNorth() - north), "0 -30000");
    }

    private static void promise30and31knotsAreCut() {
        for (int strength = 0; strength <= 10; strength++) {
            for (int from = 0; from <= 16; from += 16) {
                SquareRig ship = Voyage.under(0, from == 0 ? 2 : 3);
                ship.sail(10);
                ship.wind(from, strength);
                ship.sail(30);
                int speed = from == 0 ? -36 * strength / 30 : 80 * strength / 30;
                Check.same("speed by the strength " + strength, ship.speed(), speed);
                Check.same("reckoned by it", ship.reckonedNorth(), 30L * (speed / 10) * 10 * 100);
            }
        }
    }

    private static void promise30and31roundTheCompass() {
        boolean[] seen = new boolean[32];
        for (int run = 0; run < 28; run++) {
            SquareRig ship = Voyage.under(0, 3);
            ship.wind(16, 9);
            ship.sail(10 + run);
            ship.helm(run % 7 - 3);
            for (int i = 0; i < 300; i++) {
                ship.wind((ship.heading() + 16) % 32, 9);
                long east = ship.reckonedEast();
                long north = ship.reckonedNorth();
                int minute = ship.sail(1);
                int by = minute % 30 == 0 ? 30 * (ship.speed() / 10) * 10 : 0;
                int h = ship.heading();
                seen[h] = seen[h] || by != 0;
                Check.same("reckoned to the east", ship.reckonedEast() - east, (long) by * Voyage.eastPart(h));
                Check.same("reckoned to the north", ship.reckonedNorth() - north, (long) by * Voyage.northPart(h));
            }
        }
        int directions = 0;
        for (boolean one : seen) {
            directions += one ? 1 : 0;
        }
        Check.same("directions that were reckoned", directions, 32);
    }

    private static void promise32lines() {
        SquareRig ship = new SquareRig();
        Check.same("none at first", ship.lines(), 0);
        Voyage.give(ship, 's', 0, 1);
        Voyage.give(ship, 'm', 0, 0);
        Check.same("one for each order", ship.lines(), 2);
        ship.order('s', 0, 1);
        ship.belay(2);
        ship.sail(9);
        Check.same("none for one taken back", ship.lines(), 2);
        tellsSides(ship, 197);
        Check.same("199", ship.lines(), 199);
        tellsSides(ship, 1);
        Check.same("200", ship.lines(), 200);
        Check.same("the earliest", ship.line(0) + " " + ship.line(1) + " " + ship.line(2), "d v t");
        tellsSides(ship, 1);
        Check.same("200 still", ship.lines(), 200);
        Check.same("the first one is gone", ship.line(0) + " " + ship.line(1), "v t");
        tellsSides(ship, 1);
        Check.same("200 then too", ship.lines(), 200);
        Check.same("the second one is gone", ship.line(0) + " " + ship.line(199), "t t");
    }

    /** Lets the wind change its side so often that there are so many lines more. */
    private static void tellsSides(SquareRig ship, int lines) {
        if (ship.off() == 0) {
            ship.wind(1, 0);
            ship.sail(1);
        }
        for (int i = 0; i < lines; i++) {
            ship.wind(ship.off() > 0 ? 31 : 1, 0);
            ship.sail(1);
        }
    }

    private static void promise33line() {
        SquareRig ship = new SquareRig();
        Check.refused("line(0) of none", ship, INDEX, () -> ship.line(0));
        Voyage.give(ship, 'b', 0, 1);
        Check.same("done", ship.line(0), 'd');
        for (int wrong : new int[] {-1, 1, 199, 200, Integer.MIN_VALUE, Integer.MAX_VALUE}) {
            Check.refused("line(" + wrong + ")", ship, INDEX, () -> ship.line(wrong));
        }
        tellsSides(ship, 230);
        Check.same("the last one", ship.line(199), 't');
        Check.refused("line(200) of 200", ship, INDEX, () -> ship.line(200));
        Check.refused("line(-1) of 200", ship, INDEX, () -> ship.line(-1));
    }

    private static void promise33tackAndGybe() {
        // The wind from these directions, one a minute.
        side("the first side is no news", "", 8);
        side("tack", "t1", 1, 31);
        side("gybe", "g1", 15, 17);
        side("8 points are a tack", "t1", 4, 24);
        side("9 points are a gybe", "g1", 4, 23);
        side("from the left", "t1 g2", 24, 8, 20);
        side("over the bow", "t2", 1, 0, 31);
        side("over the stern", "g3", 15, 16, 16, 17);
        side("back to the same side", "", 1, 0, 1, 16, 5);
        side("neither at first", "", 0, 16, 31);
        side("again and again", "t1 t2 g4", 31, 1, 31, 0, 9);
        // Only behind the turning of a minute it counts.
        SquareRig ship = new SquareRig();
        ship.wind(3, 0);
        ship.sail(1);
        ship.wind(29, 0);
        ship.wind(3, 0);
        ship.sail(1);
        Check.same("between the minutes", ship.lines(), 0);
        // She turns her stern through the wind herself, and the heading behind the turning counts.
        SquareRig turning = Voyage.under(0, 3);
        turning.wind(16, 9);
        turning.sail(30);
        turning.wind(15, 9);
        turning.helm(-3);
        int before = turning.lines();
        int minute = 0;
        for (int i = 0; i < 99 && turning.lines() == before; i++) {
            minute = turning.minute();
            turning.sail(1);
        }
        Check.same("gybes herself", turning.line(before) + " " + turning.off(), "g -15");
        Check.same("in this minute", turning.lineMinute(before), minute);
    }

    private static void side(String what, String due, int... winds) {
        SquareRig ship = new SquareRig();
        for (int from : winds) {
            ship.wind(from, 0);
            ship.sail(1);
        }
        Check.same(what, Voyage.log(ship), due);
    }

    private static void promise33sequence() {
        // In one minute: an order in vain and one done, two ropes, a mast, and the wind on another side.
        SquareRig ship = Voyage.under(3, 0, 1, 2, 7, 3, 4, 5);
        ship.sail(12);
        Check.same("so far", Voyage.log(ship), "d3 d3 d3 d4 d4 d6 d6 d6 d7 d9");
        ship.wind(31, 0);
        ship.order('r', 2, 0);
        ship.order('s', 8, 2);
        ship.sail(117);
        ship.order('s', 8, 1);
        ship.sail(4);
        Check.same("the minute", ship.minute(), 153);
        ship.wind(10, 11);
        ship.sail(1);
        String log = Voyage.log(ship);
        Check.same("in this sequence", log.substring(log.indexOf("d36") + 4), "v153 d153 p153 p153 m153 g153");
    }

    private static void promise34lineMinute() {
        SquareRig ship = new SquareRig();
        Check.refused("lineMinute(0) of none", ship, INDEX, () -> ship.lineMinute(0));
        ship.sail(100);
        Voyage.give(ship, 'b', 0, 1);
        Check.same("done in", ship.lineMinute(0), 103);
        for (int wrong : new int[] {-1, 1, 199, 200, Integer.MIN_VALUE, Integer.MAX_VALUE}) {
            Check.refused("lineMinute(" + wrong + ")", ship, INDEX, () -> ship.lineMinute(wrong));
        }
        tellsSides(ship, 250);
        for (int i = 0; i < 200; i++) {
            Check.same("minute of the line " + i, ship.lineMinute(i), ship.minute() - 200 + i);
        }
        Check.refused("lineMinute(200) of 200", ship, INDEX, () -> ship.lineMinute(200));
    }
}
