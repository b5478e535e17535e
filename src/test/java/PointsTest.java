/** 'Points' and 'Sails' of the document's terms, sentence by sentence, by numbers written out. */
public final class PointsTest {
    private static final int[] NORTH = {
        100, 98, 92, 83, 71, 56, 38, 20, 0, -20, -38, -56, -71, -83, -92, -98,
        -100, -98, -92, -83, -71, -56, -38, -20, 0, 20, 38, 56, 71, 83, 92, 98};
    private static final int[] EAST = {
        0, 20, 38, 56, 71, 83, 92, 98, 100, 98, 92, 83, 71, 56, 38, 20,
        0, -20, -38, -56, -71, -83, -92, -98, -100, -98, -92, -83, -71, -56, -38, -20};

    private PointsTest() {
    }

    public static void main(String[] args) {
        directionsGoRound();
        partsOfAHeading();
        partsOfADrift();
        partsOfTheReckoning();
        offTheBow();
        sailsOnTheirMasts();
        handsOfEachOrder();
        spreadsOfASail();
        bestOfTheYards();
        pushOnASquareSail();
        pushIsAtLeast();
        pushOnJibAndSpanker();
        forceIsCut();
        Check.end();
    }

    /** "Directions are points, 0 to 31": behind 31 comes 0, and before 0 comes 31. */
    private static void directionsGoRound() {
        goesRound(3, 1);
        goesRound(-3, -1);
    }

    private static void goesRound(int helm, int step) {
        SquareRig ship = Voyage.rigged("000200000", 0, 0, 0);
        ship.wind(16, 6);
        ship.sail(20);
        ship.helm(helm);
        int now = 0;
        int turns = 0;
        // The wind stays where it is while she turns one point, and then comes from astern again.
        for (int i = 0; i < 160; i++) {
            ship.sail(2);
            int heading = ship.heading();
            if (heading != now) {
                Check.same("the next point", heading, (now + step + 32) % 32);
                now = heading;
                turns++;
                ship.wind((now + 16) % 32, 6);
            }
        }
        Check.same("more than once round", turns > 34, true);
    }

    /** "The part of a direction to the north is ..; that to the east ..", of the speed. */
    private static void partsOfAHeading() {
        for (int h = 0; h < 32; h++) {
            SquareRig ship = Voyage.headed(h);
            Check.same("she heads", ship.heading(), h);
            long east = ship.east();
            long north = ship.north();
            ship.sail(1);
            Check.same("east on " + h, ship.east() - east, 24L * EAST[h]);
            Check.same("north on " + h, ship.north() - north, 24L * NORTH[h]);
        }
    }

    /** The same parts, of the drift: she lies still, and is set to where the wind blows. */
    private static void partsOfADrift() {
        for (int h = 0; h < 32; h += 4) {
            for (int off = -10; off <= 10; off++) {
                SquareRig ship = Voyage.headed(h);
                int from = (h + off + 32) % 32;
                // The strain is 60 times the push, so that she is set by up to 3 for each hundredth.
                ship.wind(from, 6);
                long east = ship.east();
                long north = ship.north();
                ship.sail(1);
                int lee = Math.abs(ship.force(3)) / 200;
                int to = (from + 16) % 32;
                Check.same("heads on", ship.heading(), h);
                Check.same("east by the wind from " + from, ship.east() - east, (long) ship.speed() * EAST[h] + lee * EAST[to]);
                Check.same("north by the wind from " + from, ship.north() - north, (long) ship.speed() * NORTH[h] + lee * NORTH[to]);
            }
        }
    }

    /** The same parts, of the reckoning. */
    private static void partsOfTheReckoning() {
        for (int h = 0; h < 32; h++) {
            SquareRig ship = Voyage.headed(h);
            ship.sail(30 - ship.minute() % 30);
            long east = ship.reckonedEast();
            long north = ship.reckonedNorth();
            ship.sail(30);
            Check.same("reckoned east on " + h, ship.reckonedEast() - east, 600L * EAST[h]);
            Check.same("reckoned north on " + h, ship.reckonedNorth() - north, 600L * NORTH[h]);
        }
    }

    /** "It is off the bow by the least number of points .., on the right, if .., the left, or, for 0 and 16, neither." */
    private static void offTheBow() {
        int[] right = {0, 1, 2, 3, 4, 5, 6, 7, 8, 9, 10, 11, 12, 13, 14, 15, 16,
            -15, -14, -13, -12, -11, -10, -9, -8, -7, -6, -5, -4, -3, -2, -1};
        for (int h = 0; h < 32; h++) {
            SquareRig ship = Voyage.headed(h);
            for (int onward = 0; onward < 32; onward++) {
                ship.wind((h + onward) % 32, 12);
                Check.same("off on " + h + ", " + onward + " further", ship.off(), right[onward]);
            }
        }
    }

    /** "0, 1, 2 on the mast 0, 3, 4, 5 on the mast 1, and 6 on the mast 2"; "Their areas are ..". */
    private static void sailsOnTheirMasts() {
        // With the wind abeam the push is 8 on square sails braced 4, 4 on those braced 2, and 0 on those braced 0.
        forces("222222222", 4, 2, 0, "64 56 24 40 36 16 0 32 48");
        forces("222222222", 0, 4, 2, "0 0 0 80 72 32 20 32 48");
        forces("222222222", 2, 0, 4, "32 28 12 0 0 0 40 32 48");
        // Reefed they have half of it, furled nothing.
        forces("111111111", 4, 4, 4, "32 28 12 40 36 16 20 16 24");
        forces("000000000", 4, 4, 4, "0 0 0 0 0 0 0 0 0");
        forces("210210210", 4, 4, 4, "64 28 0 80 36 0 40 16 0");
    }

    private static void forces(String spreads, int fore, int main, int mizzen, String due) {
        SquareRig ship = Voyage.rigged(spreads, fore, main, mizzen);
        ship.wind(8, 1);
        StringBuilder all = new StringBuilder();
        for (int sail = 0; sail < 9; sail++) {
            all.append(ship.force(sail)).append(sail < 8 ? " " : "");
        }
        Check.same("forces of " + spreads, all.toString(), due);
    }

    /** "the hands that they need 6, 5, 3, 8, 6, 3, 4, 3 and 4", and those of the other orders: just enough are free, or one too few. */
    private static void handsOfEachOrder() {
        int[] hands = {6, 5, 3, 8, 6, 3, 4, 3, 4};
        for (int sail = 0; sail < 9; sail++) {
            needs('s', sail, hands[sail]);
            needs('m', sail, 4);
        }
        for (int mast = 0; mast < 3; mast++) {
            needs('b', mast, 5);
            needs('r', mast, 8);
        }
    }

    private static void needs(char kind, int what, int hands) {
        for (int free = hands - 1; free <= hands; free++) {
            SquareRig ship = new SquareRig();
            // One more of each watch falls sick with each day without food.
            for (int day = 0; day < 12 - free; day++) {
                ship.sail(1440);
            }
            Check.same("free", ship.free(), free);
            ship.order(kind, what, 0);
            ship.sail(2);
            Check.same(kind + " of " + what + " with " + free, ship.state(0), free == hands ? 'b' : 'w');
            Check.same("left of " + free, ship.free(), free == hands ? 0 : free);
        }
    }

    /** "A sail is furled, 0, as at first, reefed, 1, or full, 2." */
    private static void spreadsOfASail() {
        for (int sail = 0; sail < 9; sail++) {
            SquareRig ship = new SquareRig();
            Check.same("at first", ship.spread(sail), 0);
            for (int how : new int[] {1, 2, 1, 0, 2, 0}) {
                Voyage.give(ship, 's', sail, how);
                Check.same("set to", ship.spread(sail), how);
                StringBuilder due = new StringBuilder();
                for (int other = 0; other < 9; other++) {
                    due.append(other == sail ? how : 0).append(other < 8 ? " " : "");
                }
                Check.same("no other", Voyage.spreads(ship), due.toString());
            }
        }
    }

    /** "the best is half of 16 less the points off the bow, cut, at most 4, also with the wind on neither side, less than 0 if it is on the left" */
    private static void bestOfTheYards() {
        int[] best = {4, 4, 4, 4, 4, 4, 4, 4, 4, 3, 3, 2, 2, 1, 1, 0, 0,
            0, -1, -1, -2, -2, -3, -3, -4, -4, -4, -4, -4, -4, -4, -4};
        for (int h : new int[] {0, 5, 31}) {
            SquareRig ship = Voyage.headed(h);
            for (int onward = 0; onward < 32; onward++) {
                ship.wind((h + onward) % 32, 1);
                Check.same("best on " + h + ", " + onward + " further", ship.best(), best[onward]);
            }
        }
    }

    /** "for fewer than 6 points off the bow, 2 times as much as it is fewer, below 0; otherwise, for 6 and so on, ..; less 2 for each .." */
    private static void pushOnASquareSail() {
        // Ten times the push, from 0 to 16 points off the bow, on the side to which the yards are braced.
        pushes(4, "-120 -100 -80 -60 -40 -20 40 60 80 70 80 60 60 30 30 0 0");
        pushes(3, "-120 -120 -100 -80 -60 -40 20 40 60 90 100 80 80 50 50 20 20");
        pushes(2, "-120 -120 -120 -100 -80 -60 0 20 40 70 80 100 100 70 70 40 40");
        pushes(1, "-120 -120 -120 -120 -100 -80 -20 0 20 50 60 80 80 90 90 60 60");
        pushes(0, "-120 -120 -120 -120 -120 -100 -40 -20 0 30 40 60 60 70 70 80 80");
    }

    private static void pushes(int braced, String due) {
        for (int side = -1; side <= 1; side += 2) {
            SquareRig ship = Voyage.rigged("000200000", 0, side * braced, 0);
            StringBuilder all = new StringBuilder();
            for (int off = 0; off <= 16; off++) {
                ship.wind((side * off + 32) % 32, 1);
                all.append(ship.force(3)).append(off < 16 ? " " : "");
            }
            Check.same("pushes braced " + side * braced, all.toString(), due);
        }
    }

    /** "at least -12" */
    private static void pushIsAtLeast() {
        SquareRig ship = Voyage.rigged("000200000", 0, 4, 0);
        // The push on the other side is 8 * 2 less, or 7 * 2 and so on as the best becomes smaller.
        int[] dues = {-120, -120, -120, -120, -120, -120, -120, -100, -80, -50, -40, -20, -20, -10, -10, 0};
        for (int off = 0; off < 16; off++) {
            ship.wind((32 - off) % 32, 1);
            Check.same("braced to the wrong side, " + off, ship.force(3), dues[off]);
        }
    }

    /** "That on the jib and the spanker is 0 for fewer than 4 points; otherwise 5, 6, 7, 8, 8, 7, 7, 6, 5, 4, 3, 2 and 2." */
    private static void pushOnJibAndSpanker() {
        int[] push = {0, 0, 0, 0, 5, 6, 7, 8, 8, 7, 7, 6, 5, 4, 3, 2, 2};
        for (int braced = -4; braced <= 4; braced += 4) {
            SquareRig ship = Voyage.rigged("000000022", braced, braced, braced);
            for (int off = -15; off <= 16; off++) {
                ship.wind((off + 32) % 32, 12);
                Check.same("jib, " + off, ship.force(7), 4 * 12 * push[Math.abs(off)]);
                Check.same("spanker, " + off, ship.force(8), 6 * 12 * push[Math.abs(off)]);
            }
        }
    }

    /** "its area, times 0, 1 or 2, times the strength of the wind, times its push, divided by 2, cut" */
    private static void forceIsCut() {
        SquareRig ship = Voyage.rigged("011010110", 1, 1, 1);
        ship.wind(13, 1);
        Check.same("7 * 9 / 2", ship.force(1), 31);
        Check.same("3 * 9 / 2", ship.force(2), 13);
        Check.same("9 * 9 / 2", ship.force(4), 40);
        Check.same("5 * 9 / 2", ship.force(6), 22);
        Check.same("4 * 4 / 2", ship.force(7), 8);
        ship.wind(32 - 9, 1);
        Check.same("7 * (9 - 8) / 2", ship.force(1), 3);
        ship.wind(32 - 13, 1);
        Check.same("7 * (9 - 4) / 2", ship.force(1), 17);
        SquareRig wrong = Voyage.rigged("011010100", -4, -4, -4);
        wrong.wind(13, 1);
        Check.same("7 * (9 - 10) / 2", wrong.force(1), -3);
        Check.same("3 * (9 - 10) / 2", wrong.force(2), -1);
        Check.same("9 * (9 - 10) / 2", wrong.force(4), -4);
        Check.same("5 * (9 - 10) / 2", wrong.force(6), -2);
        wrong.wind(9, 3);
        Check.same("7 * 3 * (9 - 14) / 2", wrong.force(1), -52);
        wrong.wind(9, 0);
        Check.same("no wind", wrong.force(1), 0);
    }
}
