/** 'Hold' of the document's terms, and what a day takes from it, sentence by sentence. */
public final class StoresTest {
    private StoresTest() {
    }

    public static void main(String[] args) {
        twentyCasks();
        theLastOneIsOnTop();
        jettisonOfAnyCask();
        aDayIsOver();
        asManyAsPeople();
        tooFewOfEither();
        whatIsThere();
        fromTheTopOn();
        theUppermostThree();
        oneBehindTheOther();
        foodAndThenWater();
        thoseOverBoardAreNotReached();
        Check.end();
    }

    /** A ship with these casks, w for water and f for food, the lowest one first. */
    private static SquareRig laden(String casks) {
        SquareRig ship = new SquareRig();
        for (String cask : casks.split(" ")) {
            ship.stow(cask.charAt(0) == 'w', Integer.parseInt(cask.substring(1)));
        }
        return ship;
    }

    private static void day(String casks, String due, int sick) {
        SquareRig ship = laden(casks);
        ship.sail(1440);
        Check.same("a day takes from " + casks, Voyage.casks(ship).trim(), due);
        Check.same("sick by " + casks, ship.sick(0) + " " + ship.sick(1), sick + " " + sick);
    }

    /** "At most 20 casks lie in it" */
    private static void twentyCasks() {
        SquareRig ship = new SquareRig();
        for (int i = 1; i <= 20; i++) {
            Check.same("how many lie there", ship.stow(i % 3 == 0, 25 * i), i);
        }
        Check.raises("one more", IllegalStateException.class, () -> ship.stow(true, 1));
        Check.same("the twentieth is the last", ship.left(19), 500);
        for (int i = 0; i < 5; i++) {
            ship.jettison();
        }
        for (int i = 16; i <= 20; i++) {
            Check.same("how many lie there again", ship.stow(true, i), i);
        }
        Check.raises("one more again", IllegalStateException.class, () -> ship.stow(false, 500));
        Check.same("those below stay", ship.left(0) + " " + ship.left(14) + " " + ship.left(15) + " " + ship.left(19), "25 375 16 20");
    }

    /** "the last one on top" */
    private static void theLastOneIsOnTop() {
        SquareRig ship = laden("w1 f2 w3");
        Check.same("from the lowest one", Voyage.casks(ship), "1 2 3 ");
        Check.same("the uppermost goes", ship.jettison() + " " + Voyage.casks(ship), "3 1 2 ");
        ship.stow(false, 500);
        Check.same("a new one comes there", Voyage.casks(ship), "1 2 500 ");
    }

    /** "Throws the uppermost cask over board, empty or not." */
    private static void jettisonOfAnyCask() {
        SquareRig ship = laden("w100 f100 f24 w24");
        ship.sail(1440);
        Check.same("two are empty", Voyage.casks(ship), "100 100 0 0 ");
        Check.same("an empty one", ship.jettison(), 0);
        Check.same("it alone is gone", Voyage.casks(ship), "100 100 0 ");
        Check.same("another empty one", ship.jettison(), 0);
        Check.same("a full one", ship.jettison(), 100);
        Check.same("the last one", ship.jettison(), 100);
        Check.raises("none", java.util.NoSuchElementException.class, () -> ship.jettison());
    }

    /** "If it can be divided by 1440, a day is over" */
    private static void aDayIsOver() {
        SquareRig ship = laden("w500 f500");
        ship.sail(1439);
        Check.same("not yet", Voyage.casks(ship), "500 500 ");
        ship.sail(1);
        Check.same("one", Voyage.casks(ship), "476 476 ");
        ship.sail(1439);
        Check.same("one still", Voyage.casks(ship), "476 476 ");
        ship.sail(1500);
        Check.same("three", ship.minute() + " " + Voyage.casks(ship), "4379 428 428 ");
        SquareRig two = laden("w500 f500");
        two.sail(1439);
        two.sail(1442);
        Check.same("two in one call", two.minute() + " " + Voyage.casks(two), "2881 452 452 ");
    }

    /** "as many units of food, and then of water, are taken as there are people, 12 in each watch" */
    private static void asManyAsPeople() {
        day("w24 f24", "0 0", 0);
        day("w25 f25", "1 1", 0);
        day("f24 w24", "0 0", 0);
        // The sick ones eat too, and those below.
        SquareRig ship = new SquareRig();
        for (int i = 0; i < 13; i++) {
            ship.sail(1440);
        }
        ship.stow(true, 500);
        ship.stow(false, 500);
        ship.sail(1440);
        Check.same("all 24 are sick", Voyage.casks(ship) + ship.sick(0), "476 476 11");
        ship.callAll(true);
        ship.sail(1440);
        Check.same("all are called", Voyage.casks(ship) + ship.sick(0), "452 452 10");
    }

    /** "if there were too few of either, one more is sick in each watch, .. and otherwise one fewer in each" */
    private static void tooFewOfEither() {
        day("w24 f23", "0 0", 1);
        day("w23 f24", "0 0", 1);
        day("w23 f23", "0 0", 1);
        day("w100", "76", 1);
        day("f100", "76", 1);
        SquareRig ship = laden("w47 f48");
        ship.sail(1440);
        Check.same("enough", ship.sick(0) + ship.sick(1), 0);
        ship.sail(1440);
        Check.same("too little water", ship.sick(0) + " " + ship.sick(1) + " " + Voyage.casks(ship), "1 1 0 0 ");
    }

    /** "or what is there if that is less" */
    private static void whatIsThere() {
        day("w1 f1", "0 0", 1);
        day("w23 f1", "0 0", 1);
        day("f7 f7 f9", "0 0 0", 1);
        day("f7 f8 f9", "0 0 0", 1);
        day("w24 f7 f8 f9", "0 0 0 0", 0);
    }

    /** "from the casks of that kind that can be reached, from the top on" */
    private static void fromTheTopOn() {
        day("f30 w30 f30", "30 6 6", 0);
        day("f30 w30 f20", "26 6 0", 0);
        day("w30 f30 w10", "16 6 0", 0);
        day("f1 w30 f23", "0 6 0", 0);
    }

    /** "The uppermost 3 that are not empty can be reached" */
    private static void theUppermostThree() {
        day("f30 w30 w30", "6 30 6", 0);
        day("f30 w30 w30 w30", "30 30 30 6", 1);
        day("w30 f30 f30", "6 30 6", 0);
        day("w30 f30 f30 f30", "30 30 30 6", 1);
        // Those that are empty do not count, wherever they lie.
        SquareRig ship = laden("f50 w50 w12 w12");
        ship.sail(1440);
        Check.same("the lowest is the fourth", Voyage.casks(ship) + ship.sick(0), "50 50 0 0 1");
        ship.stow(true, 500);
        ship.sail(1440);
        Check.same("and now the third", Voyage.casks(ship) + ship.sick(0), "26 50 0 0 476 0");
        ship.stow(true, 1);
        ship.sail(1440);
        Check.same("and the fourth again", Voyage.casks(ship) + ship.sick(0), "26 50 0 0 453 0 1");
        ship.stow(false, 24);
        ship.sail(1440);
        Check.same("new ones lie on top", Voyage.casks(ship) + ship.sick(0), "26 50 0 0 429 0 0 0");
    }

    /** "one behind the other, as casks are emptied" */
    private static void oneBehindTheOther() {
        day("w50 f10 f10 f10", "26 6 0 0", 0);
        day("w24 f3 f3 f3 f3 f3 f3 f3 f3", "0 0 0 0 0 0 0 0 0", 0);
        day("f20 w99 w99 f4", "0 99 75 0", 0);
        day("f20 w99 w99 w99 f4", "20 99 99 75 0", 1);
        day("f24 w6 w6 w6 w6", "24 0 0 0 0", 1);
        // What the water empties is emptied behind the food: the food below is reached on the next day.
        SquareRig ship = laden("f24 w30 w6 w6 w6 w6");
        ship.sail(1440);
        Check.same("not yet", Voyage.casks(ship) + ship.sick(0), "24 30 0 0 0 0 1");
        ship.sail(1440);
        Check.same("then", Voyage.casks(ship) + ship.sick(0), "0 6 0 0 0 0 0");
    }

    /** "of food, and then of water" */
    private static void foodAndThenWater() {
        day("w24 f8 f8 f8", "0 0 0 0", 0);
        day("f24 w8 w8 w8", "24 0 0 0", 1);
        // Water is taken though the food was too little.
        day("w30 f3 f3 f3", "6 0 0 0", 1);
    }

    private static void thoseOverBoardAreNotReached() {
        SquareRig ship = laden("f50 w50 w50 w50");
        ship.jettison();
        ship.sail(1440);
        Check.same("the food is the third now", Voyage.casks(ship) + ship.sick(0), "26 50 26 0");
        SquareRig other = laden("w50 f50");
        other.jettison();
        other.sail(1440);
        Check.same("the food is gone", Voyage.casks(other) + other.sick(0), "26 1");
        other.stow(false, 3);
        Check.same("its place is new", other.left(1), 3);
        other.sail(1440);
        Check.same("three are too few", Voyage.casks(other) + other.sick(0), "2 0 2");
        // The casks 0 to 19: the uppermost place is reached as any other.
        SquareRig full = new SquareRig();
        for (int i = 0; i < 20; i++) {
            full.stow(i % 2 == 0, 100);
        }
        full.sail(1440);
        Check.same("of 20", full.left(19) + " " + full.left(18) + " " + full.left(17), "76 76 100");
    }
}
