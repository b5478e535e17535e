/** Promises 16 to 28: the minutes, the place, the sails, the ropes and the masts. */
public final class ShipTest {
    private static final Class<IndexOutOfBoundsException> INDEX = IndexOutOfBoundsException.class;
    private static final int[] AREA = {8, 7, 3, 10, 9, 4, 5, 4, 6};
    private static final int[] SQUARE_PUSH = {-12, -10, -8, -6, -4, -2, 4, 6, 8, 9, 10, 10, 10, 9, 9, 8, 8};
    private static final int[] OTHER_PUSH = {0, 0, 0, 0, 5, 6, 7, 8, 8, 7, 7, 6, 5, 4, 3, 2, 2};
    private static final int[] BEST = {4, 4, 4, 4, 4, 4, 4, 4, 4, 3, 3, 2, 2, 1, 1, 0, 0};
    private static final int[] WRONG = {-1, 9, 100, Integer.MIN_VALUE, Integer.MAX_VALUE};

    private ShipTest() {
    }

    public static void main(String[] args) {
        promise16sail();
        promise17minute();
        promise18heading();
        promise18balance();
        promise18swingIsKept();
        promise19speed();
        promise19foulness();
        promise20and21place();
        promise20and21drift();
        promise22off();
        promise23force();
        promise24spread();
        promise25strength();
        promise26braced();
        promise27isSprung();
        promise27isSprungByTheRest();
        promise28best();
        Check.end();
    }

    private static void promise16sail() {
        SquareRig ship = new SquareRig();
        Check.same("sail(1)", ship.sail(1), 1);
        Check.same("sail(1500)", ship.sail(1500), 1501);
        for (int wrong : new int[] {0, -1, 1501, Integer.MIN_VALUE, Integer.MAX_VALUE}) {
            Check.refused("sail(" + wrong + ")", ship, IllegalArgumentException.class, () -> ship.sail(wrong));
        }
        SquareRig once = OrdersTest.sprung();
        SquareRig often = OrdersTest.sprung();
        once.wind(4, 7);
        often.wind(4, 7);
        once.order('s', 6, 2);
        often.order('s', 6, 2);
        once.sail(100);
        for (int i = 0; i < 100; i++) {
            often.sail(1);
        }
        Check.same("at once or one by one", Voyage.facts(once), Voyage.facts(often));
    }

    private static void promise17minute() {
        SquareRig ship = new SquareRig();
        ship.sail(7);
        ship.sail(33);
        Check.same("minute()", ship.minute(), 40);
        Check.raises("sail(0)", IllegalArgumentException.class, () -> ship.sail(0));
        Check.same("minute() behind a wrong call", ship.minute(), 40);
    }

    private static void promise18heading() {
        // Sails on the mast 1 alone, the wind always from astern: only the helm turns her.
        for (int helm = -3; helm <= 3; helm++) {
            SquareRig ship = Voyage.under(0, 3);
            ship.helm(helm);
            int swing = 0;
            int heading = 0;
            for (int i = 0; i < 400; i++) {
                ship.wind(Math.floorMod(heading + 16, 32), 9);
                ship.sail(1);
                swing += helm * ship.speed() / 4;
                while (swing >= 100) {
                    heading = (heading + 1) % 32;
                    swing -= 100;
                }
                while (swing <= -100) {
                    heading = (heading + 31) % 32;
                    swing += 100;
                }
                Check.same("heading by helm " + helm, ship.heading(), heading);
            }
        }
    }

    private static void promise18balance() {
        // The spanker turns her into the wind, the jib away from it.
        Check.same("spanker, right", headings(8, 8, 12), "1 2 3 3 4 ");
        Check.same("spanker, left", headings(8, 24, 12), "31 30 29 29 28 ");
        Check.same("jib, right", headings(7, 8, 12), "0 31 31 30 29 ");
        Check.same("jib, left", headings(7, 24, 12), "0 1 1 2 3 ");
        Check.same("spanker, astern", headings(8, 16, 12), "0 0 0 0 0 ");
        Check.same("spanker, ahead", headings(8, 0, 12), "0 0 0 0 0 ");
        for (int from = 4; from < 29; from++) {
            for (int strength = 1; strength <= 12; strength++) {
                headings(7, from, strength);
                headings(8, from, strength);
            }
        }
    }

    /** The headings of a ship under one sail behind every 10th minute. */
    private static String headings(int sail, int from, int strength) {
        SquareRig ship = Voyage.under(0, sail);
        ship.wind(from, strength);
        StringBuilder all = new StringBuilder();
        int swing = 0;
        int heading = 0;
        for (int i = 1; i <= 50; i++) {
            int off = ship.off();
            int side = off == 0 || off == 16 ? 0 : off > 0 ? 1 : -1;
            int strains = (sail == 8 ? 1 : -1) * Math.abs(ship.force(sail));
            swing += side * (strains / 50);
            heading += swing / 100;
            swing %= 100;
            ship.sail(1);
            Check.same("heading under " + sail, ship.heading(), Math.floorMod(heading, 32));
            if (i % 10 == 0) {
                all.append(ship.heading()).append(' ');
            }
        }
        return all.toString();
    }

    private static void promise18swingIsKept() {
        SquareRig ship = Voyage.under(0, 3);
        ship.wind(16, 9);
        ship.sail(60);
        Check.same("720 / 30", ship.speed(), 24);
        ship.helm(3);
        ship.sail(5);
        Check.same("swing 90", ship.heading(), 0);
        ship.helm(-3);
        ship.sail(10);
        Check.same("swing -90", ship.heading(), 0);
        ship.helm(0);
        ship.sail(30);
        Check.same("it stays", ship.heading(), 0);
        ship.helm(-2);
        ship.sail(1);
        Check.same("swing -102", ship.heading(), 31);
        ship.helm(2);
        ship.sail(8);
        Check.same("swing 94", ship.heading(), 31);
        ship.helm(1);
        ship.sail(1);
        Check.same("swing 100", ship.heading(), 0);
    }

    private static void promise19speed() {
        SquareRig ship = Voyage.under(0, 3);
        ship.wind(16, 9);
        for (int i = 1; i <= 15; i++) {
            ship.sail(1);
            Check.same("up by 2", ship.speed(), Math.min(2 * i, 24));
        }
        ship.wind(16, 5);
        // 400 / 30 is 13: the last step is 1.
        for (int i = 1; i <= 8; i++) {
            ship.sail(1);
            Check.same("down by 2", ship.speed(), Math.max(24 - 2 * i, 13));
        }
        // Astern: 10 * 2 * 3 * -12 / 2 is -360, and 360 / 30 is 12.
        ship.wind(0, 3);
        ship.sail(60);
        Check.same("astern", ship.speed(), -12);
        ship.wind(16, 0);
        ship.sail(1);
        Check.same("and up again", ship.speed(), -10);
        ship.sail(10);
        Check.same("to a stop", ship.speed(), 0);
        // Cut towards 0.
        SquareRig small = Voyage.under(0, 2);
        small.wind(0, 2);
        small.sail(9);
        Check.same("-72 / 30", small.speed(), -2);
        small.wind(0, 1);
        small.sail(9);
        Check.same("-36 / 30", small.speed(), -1);
    }

    private static void promise19foulness() {
        SquareRig ship = Voyage.under(0, 3);
        ship.stow(false, 500);
        ship.stow(true, 500);
        ship.wind(16, 5);
        for (int day = 0; day < 25; day++) {
            Voyage.sailFar(ship, 1440 * (day + 1) - 1 - ship.minute());
            Check.same("speed in the day " + day, ship.speed(), 400 / (30 + day));
            ship.sail(1);
            Check.same("in its last minute", ship.speed(), 400 / (30 + day));
            ship.sail(9);
            Check.same("in the first minutes of the next", ship.speed(), 400 / (31 + day));
        }
    }

    private static void promise20and21place() {
        // All that can be seen of a minute tells how far the ship has gone in it.
        int[][] rigs = {{3}, {3, 4}, {7}, {8}, {6, 8, 7}, {0, 1, 2, 3, 4, 5, 6, 7, 8}};
        boolean[] seen = new boolean[32];
        for (int[] rig : rigs) {
            SquareRig ship = Voyage.under(0, rig);
            for (int i = 0; i < 400; i++) {
                int from = i * 7 % 32;
                ship.wind(from, i % 5);
                ship.helm(i / 30 % 7 - 3);
                ship.current(i * 37 % 100 - 50, 30 - i * 29 % 100);
                long east = ship.east();
                long north = ship.north();
                ship.sail(1);
                int h = ship.heading();
                seen[h] = true;
                int lee = Math.abs(ship.off()) <= 10 ? Voyage.strain(ship) / 200 : 0;
                long dueEast = ship.speed() * Voyage.eastPart(h) + lee * Voyage.eastPart(from + 16);
                long dueNorth = ship.speed() * Voyage.northPart(h) + lee * Voyage.northPart(from + 16);
                Check.same("to the east", ship.east() - east, dueEast + i * 37 % 100 - 50);
                Check.same("to the north", ship.north() - north, dueNorth + 30 - i * 29 % 100);
            }
        }
        // Round the whole compass before the wind.
        SquareRig ship = Voyage.under(0, 3);
        ship.helm(3);
        for (int i = 0; i < 300; i++) {
            ship.wind((ship.heading() + 16) % 32, 9);
            long east = ship.east();
            long north = ship.north();
            ship.sail(1);
            int h = ship.heading();
            seen[h] = true;
            Check.same("east, heading " + h, ship.east() - east, (long) ship.speed() * Voyage.eastPart(h));
            Check.same("north, heading " + h, ship.north() - north, (long) ship.speed() * Voyage.northPart(h));
        }
        for (int h = 0; h < 32; h++) {
            Check.same("was on " + h, seen[h], true);
        }
    }

    private static void promise20and21drift() {
        // 10 points off the bow she drifts, 11 points off she does not.
        for (int from = 9; from <= 12; from++) {
            for (int side = -1; side <= 1; side += 2) {
                SquareRig ship = Voyage.under(side * 2, 3);
                ship.wind(Math.floorMod(side * from, 32), 8);
                ship.sail(1);
                int strain = Voyage.strain(ship);
                int due = from <= 10 ? strain / 200 * Voyage.eastPart(side * from + 16) : 0;
                Check.same("a drift there is", strain >= 400, true);
                Check.same("drift from " + from, ship.east(), (long) due);
            }
        }
        // 900, 360 and 135 are 1395, 6 times 200.
        SquareRig heavy = Voyage.under(3, 3, 5);
        Voyage.give(heavy, 's', 2, 1);
        heavy.wind(10, 9);
        Check.same("the strains", Voyage.strain(heavy), 1395);
        heavy.sail(1);
        Check.same("their drift", heavy.east() + " " + (heavy.north() - 2 * 100), 6 * Voyage.eastPart(26) + " " + 6 * Voyage.northPart(26));
        driftOfManyWinds();
        // Before, she was at most 10 points off the bow, and behind the turning she is not.
        SquareRig ship = Voyage.under(0, 3);
        ship.wind(16, 9);
        ship.sail(30);
        ship.helm(-3);
        ship.wind(10, 9);
        long last = 0;
        for (int i = 0; i < 99 && ship.heading() == 0; i++) {
            last = ship.east();
            ship.sail(1);
        }
        Check.same("no drift behind the turning", ship.east() - last, (long) ship.speed() * Voyage.eastPart(31));
    }

    private static void driftOfManyWinds() {
        // The strains behind the turning count: she turns under way while the wind is abeam.
        for (int braced = -4; braced <= 4; braced++) {
            SquareRig ship = Voyage.under(braced, 3, 4, 6);
            ship.wind(16, 9);
            ship.sail(30);
            ship.helm(3);
            for (int i = 0; i < 200; i++) {
                int from = Math.floorMod(ship.heading() + i * 11 % 21 - 10, 32);
                ship.wind(from, i * 7 % 13);
                long east = ship.east();
                long north = ship.north();
                ship.sail(1);
                int h = ship.heading();
                int lee = Math.abs(ship.off()) <= 10 ? Voyage.strain(ship) / 200 : 0;
                long dueEast = ship.speed() * Voyage.eastPart(h) + lee * Voyage.eastPart(from + 16);
                long dueNorth = ship.speed() * Voyage.northPart(h) + lee * Voyage.northPart(from + 16);
                Check.same("drift to the east", ship.east() - east, dueEast);
                Check.same("drift to the north", ship.north() - north, dueNorth);
            }
        }
    }

    private static void promise22off() {
        for (int from = 0; from < 32; from++) {
            SquareRig ship = new SquareRig();
            ship.wind(from, 3);
            Check.same("off with the wind from " + from, ship.off(), from <= 16 ? from : from - 32);
        }
        SquareRig ship = Voyage.under(0, 3);
        ship.helm(2);
        ship.wind(16, 9);
        ship.sail(60);
        int heading = ship.heading();
        Check.same("turned", heading > 2, true);
        for (int from = 0; from < 32; from++) {
            ship.wind(from, 3);
            int onward = Math.floorMod(from - heading, 32);
            Check.same("off behind a turn", ship.off(), onward <= 16 ? onward : onward - 32);
        }
    }

    private static void promise23force() {
        for (int braced = -4; braced <= 4; braced++) {
            SquareRig ship = Voyage.under(braced, 0, 1, 2, 3, 4, 5, 6, 7, 8);
            ship.sail(20);
            for (int from = 0; from < 32; from++) {
                int points = Math.min(from, 32 - from);
                int best = from <= 16 ? BEST[points] : -BEST[points];
                int square = Math.max(-12, SQUARE_PUSH[points] - 2 * Math.abs(braced - best));
                for (int strength = 0; strength <= 12; strength++) {
                    ship.wind(from, strength);
                    for (int sail = 0; sail < 9; sail++) {
                        int push = sail < 7 ? square : OTHER_PUSH[points];
                        Check.same("force", ship.force(sail), AREA[sail] * 2 * strength * push / 2);
                    }
                }
            }
        }
        SquareRig ship = new SquareRig();
        ship.wind(5, 3);
        Check.same("furled", ship.force(8), 0);
        Voyage.give(ship, 's', 2, 1);
        Voyage.give(ship, 's', 8, 1);
        Voyage.give(ship, 'b', 0, 3);
        ship.wind(16 + ship.heading() & 31, 5);
        Check.same("reefed", ship.force(2), 3 * 5 * 2 / 2);
        ship.wind(14 + ship.heading() & 31, 5);
        Check.same("reefed, braced too far", ship.force(2), 3 * 5 * 5 / 2);
        ship.wind(32 - 6 + ship.heading() & 31, 5);
        Check.same("reefed, cut towards 0", ship.force(2), -3 * 5 * 10 / 2);
        ship.wind(ship.heading() + 13 & 31, 1);
        Check.same("the spanker, reefed", ship.force(8), 6 * 4 / 2);
        for (int wrong : WRONG) {
            Check.refused("force(" + wrong + ")", ship, INDEX, () -> ship.force(wrong));
        }
        forceIsCut();
    }

    private static void forceIsCut() {
        SquareRig ship = new SquareRig();
        Voyage.give(ship, 's', 2, 1);
        ship.wind(13, 3);
        Check.same("3 * 1 * 3 * 7 / 2", ship.force(2), 31);
        ship.order('b', 0, -4);
        ship.sail(4);
        ship.wind(13, 1);
        Check.same("3 * 1 * 1 * -1 / 2", ship.force(2), -1);
        ship.wind(13, 5);
        Check.same("3 * 1 * 5 * -1 / 2", ship.force(2), -7);
    }

    private static void promise24spread() {
        SquareRig ship = new SquareRig();
        for (int sail = 0; sail < 9; sail++) {
            Voyage.give(ship, 's', sail, sail % 3);
        }
        for (int sail = 0; sail < 9; sail++) {
            Check.same("spread(" + sail + ")", ship.spread(sail), sail % 3);
        }
        for (int wrong : WRONG) {
            Check.refused("spread(" + wrong + ")", ship, INDEX, () -> ship.spread(wrong));
        }
        SquareRig torn = OrdersTest.torn();
        Check.same("its rope has parted", torn.spread(3), -1);
        Check.same("another has not", torn.spread(4), 0);
    }

    private static void promise25strength() {
        // 2 * 10 * 5 * w, braced best: the strain is 450 with w 9 reefed, and more than half of 900 with 10.
        SquareRig ship = Voyage.under(3);
        Voyage.give(ship, 's', 3, 1);
        ship.wind(10, 9);
        ship.sail(5);
        Check.same("450 does not wear 900", ship.strength(3), 900);
        ship.wind(10, 10);
        ship.sail(5);
        Check.same("500 wears it", ship.strength(3), 895);
        Check.same("not those of others", ship.strength(2) + ship.strength(4), 1800);
        ship.wind(10, 9);
        ship.sail(5);
        Check.same("450 wears 895", ship.strength(3), 890);
        for (int wrong : WRONG) {
            Check.refused("strength(" + wrong + ")", ship, INDEX, () -> ship.strength(wrong));
        }
        // The rope wears down until the strain is more than it can bear.
        SquareRig worn = Voyage.under(3, 3);
        worn.wind(10, 9);
        Check.same("the strain", worn.force(3), 900);
        worn.sail(1);
        Check.same("900 holds 900", worn.strength(3) + " " + worn.spread(3), "899 2");
        Check.same("no line", worn.lines(), 4);
        worn.sail(1);
        Check.same("899 does not", worn.strength(3) + " " + worn.spread(3), "899 -1");
        Check.same("a line", worn.line(4) + " " + worn.lineMinute(4), "p 21");
        worn.sail(9);
        Check.same("it stays as it was", worn.strength(3), 899);
        Voyage.give(worn, 'm', 3, 0);
        Check.same("mended", worn.strength(3), 900);
        // The strain is an amount: also aback a rope wears and parts.
        SquareRig aback = Voyage.under(4, 3);
        aback.wind(0, 6);
        aback.sail(1);
        Check.same("-720 wears", aback.force(3) + " " + aback.strength(3), "-720 899");
        aback.wind(0, 8);
        aback.sail(1);
        Check.same("-960 parts", aback.spread(3), -1);
        noDriveByWhatParts();
    }

    private static void noDriveByWhatParts() {
        // In the minute in which it parts, the sail is furled already: it neither drives nor turns.
        SquareRig ship = OrdersTest.torn();
        Check.same("no speed", ship.speed(), 0);
        Check.same("no drift", ship.east() + " " + ship.north(), "0 0");
        SquareRig both = Voyage.under(3, 3, 2);
        both.wind(10, 12);
        both.sail(1);
        Check.same("one holds", both.spread(2) + " " + both.spread(3) + " " + both.speed(), "2 -1 2");
        Check.same("the drift of one", both.east(), 360 / 200 * (long) Voyage.eastPart(26));
    }

    private static void promise26braced() {
        SquareRig ship = new SquareRig();
        for (int how = -4; how <= 4; how++) {
            for (int mast = 0; mast < 3; mast++) {
                Voyage.give(ship, 'b', mast, how);
                Check.same("braced(" + mast + ")", ship.braced(mast), how);
            }
        }
        Voyage.give(ship, 'b', 1, -2);
        Check.same("one alone", ship.braced(0) + " " + ship.braced(1) + " " + ship.braced(2), "4 -2 4");
        for (int wrong : new int[] {-1, 3, 8, Integer.MIN_VALUE, Integer.MAX_VALUE}) {
            Check.refused("braced(" + wrong + ")", ship, INDEX, () -> ship.braced(wrong));
        }
    }

    private static void promise27isSprung() {
        SquareRig ship = OrdersTest.sprung();
        Check.same("the mast 1", ship.isSprung(0) + " " + ship.isSprung(1) + " " + ship.isSprung(2), "false true false");
        Check.same("one line", ship.line(ship.lines() - 1) + " " + ship.lineMinute(ship.lines() - 1), "m 20");
        Check.same("no lines of their own", ship.lines(), 7);
        Check.same("its ropes", ship.strength(3) + " " + ship.strength(4) + " " + ship.strength(5), "899 899 900");
        Check.same("no drive", ship.speed(), 0);
        for (int wrong : new int[] {-1, 3, 8, Integer.MIN_VALUE, Integer.MAX_VALUE}) {
            Check.refused("isSprung(" + wrong + ")", ship, INDEX, () -> ship.isSprung(wrong));
        }
        // All sails of the mast, the jib too, are lost, also those that were furled; no others.
        SquareRig fore = Voyage.under(3, 0, 1, 7, 8);
        fore.order('s', 2, 2);
        fore.sail(9);
        fore.wind(10, 11);
        fore.sail(1);
        StringBuilder spread = new StringBuilder();
        for (int sail = 0; sail < 9; sail++) {
            spread.append(fore.spread(sail)).append(' ');
        }
        Check.same("the mast 0", spread + "" + fore.isSprung(0), "-1 -1 -1 0 0 0 0 -1 2 true");
        SquareRig furled = Voyage.under(3, 3, 4, 5);
        furled.wind(10, 9);
        Check.same("900, 810, 360", furled.force(3) + furled.force(4) + furled.force(5), 2070);
        furled.sail(1);
        Check.same("sprung", furled.isSprung(1), true);
        Check.same("the sum of its speed", furled.speed(), 0);
    }

    private static void promise27isSprungByTheRest() {
        // 8 * 2 * 12 * 10 / 2 is 960: that rope parts, and the rest of its mast, 840, 360 and 336, is less than 2000.
        SquareRig rest = Voyage.under(3, 0, 1, 2, 7);
        rest.sail(9);
        rest.wind(10, 12);
        rest.sail(1);
        Check.same("960 parts", rest.spread(0) + " " + rest.spread(1) + " " + rest.spread(2) + " " + rest.spread(7), "-1 2 2 2");
        Check.same("not sprung", rest.isSprung(0), false);
        // 880, 770, 330 are 1980, and with the jib, 308, more than 2000.
        SquareRig three = Voyage.under(3, 0, 1, 2);
        three.wind(10, 11);
        three.sail(1);
        Check.same("1980 holds", three.isSprung(0), false);
        // 800, 700, 300 and 200 are 2000, and 880, 770 and 352 are 2002.
        SquareRig just = Voyage.under(2, 0, 1, 2, 7);
        just.sail(9);
        just.wind(12, 10);
        Check.same("the strain", Voyage.strain(just), 2000);
        just.sail(1);
        Check.same("2000 holds", just.isSprung(0), false);
        SquareRig more = Voyage.under(-4, 0, 1, 7);
        more.wind(7, 11);
        Check.same("its strain", Voyage.strain(more), 2002);
        more.sail(1);
        Check.same("2002 springs", more.isSprung(0), true);
        // 10 * 8 * 11, 9 * 8 * 11 and 4 * 8 * 11 are 2024; with w 8 and push 10 they are 1840.
        SquareRig main = Voyage.under(0, 3, 4, 5);
        main.wind(16, 11);
        main.sail(1);
        Check.same("2024 springs", main.isSprung(1), true);
        SquareRig held = Voyage.under(3, 3, 4, 5);
        held.wind(10, 8);
        held.sail(1);
        Check.same("1840 holds", held.isSprung(1), false);
    }

    private static void promise28best() {
        SquareRig ship = new SquareRig();
        for (int from = 0; from < 32; from++) {
            ship.wind(from, 5);
            Check.same("best, from " + from, ship.best(), from <= 16 ? BEST[from] : -BEST[32 - from]);
        }
    }
}
