import java.util.NoSuchElementException;

/** Promises 13 to 15: the hold, and what a day takes from it. */
public final class HoldTest {
    private static final Class<IndexOutOfBoundsException> INDEX = IndexOutOfBoundsException.class;

    private HoldTest() {
    }

    public static void main(String[] args) {
        promise13stow();
        promise14left();
        promise15jettison();
        aDayTakes();
        Check.end();
    }

    private static void promise13stow() {
        SquareRig ship = new SquareRig();
        for (int wrong : new int[] {0, -1, 501, Integer.MIN_VALUE, Integer.MAX_VALUE}) {
            Check.refused("stow of " + wrong, ship, IllegalArgumentException.class, () -> ship.stow(true, wrong));
            Check.refused("stow of " + wrong, ship, IllegalArgumentException.class, () -> ship.stow(false, wrong));
        }
        Check.same("one unit", ship.stow(false, 1), 1);
        Check.same("500 units", ship.stow(true, 500), 2);
        for (int i = 2; i < 20; i++) {
            Check.same("cask " + i, ship.stow(i % 2 == 0, i), i + 1);
        }
        Check.refused("the cask 20", ship, IllegalStateException.class, () -> ship.stow(true, 5));
        Check.refused("a wrong one", ship, IllegalArgumentException.class, () -> ship.stow(true, 0));
        ship.jettison();
        Check.same("in its place", ship.stow(true, 77), 20);
        Check.same("it is on top", ship.left(19), 77);
    }

    private static void promise14left() {
        SquareRig ship = new SquareRig();
        Check.refused("left(0) of none", ship, INDEX, () -> ship.left(0));
        ship.stow(true, 3);
        ship.stow(false, 4);
        Check.same("the lowest", ship.left(0), 3);
        Check.same("the upper", ship.left(1), 4);
        for (int wrong : new int[] {-1, 2, 19, 20, Integer.MIN_VALUE, Integer.MAX_VALUE}) {
            Check.refused("left(" + wrong + ")", ship, INDEX, () -> ship.left(wrong));
        }
        ship.jettison();
        Check.refused("left(1) then", ship, INDEX, () -> ship.left(1));
        Voyage.sailFar(ship, 1440);
        Check.same("empty", ship.left(0), 0);
    }

    private static void promise15jettison() {
        SquareRig ship = new SquareRig();
        Check.refused("of none", ship, NoSuchElementException.class, () -> ship.jettison());
        ship.stow(true, 100);
        ship.stow(false, 24);
        Voyage.sailFar(ship, 1440);
        Check.same("an empty one lies there", Voyage.casks(ship), "76 0 ");
        Check.same("an empty one", ship.jettison(), 0);
        Check.same("the next one", ship.jettison(), 76);
        Check.refused("of none left", ship, NoSuchElementException.class, () -> ship.jettison());
        Check.same("a new one", ship.stow(false, 9), 1);
        Check.same("its units", Voyage.casks(ship), "9 ");
        // What went over board feeds nobody.
        SquareRig gone = new SquareRig();
        gone.stow(true, 100);
        gone.stow(false, 100);
        gone.stow(false, 100);
        gone.jettison();
        gone.jettison();
        Voyage.sailFar(gone, 1440);
        Check.same("no food is left", Voyage.casks(gone) + gone.sick(0), "76 1");
    }

    private static void aDayTakes() {
        // w and f are kinds, the lowest cask first.
        day("enough of both", "w100 f100", "76 76 ", 0);
        day("just enough", "w24 f24", "0 0 ", 0);
        day("too little food", "w100 f23", "76 0 ", 1);
        day("too little water", "w23 f100", "0 76 ", 1);
        day("no food", "w100", "76 ", 1);
        day("no water", "f100", "76 ", 1);
        day("nothing", "", "", 1);
        day("from the top on", "f50 f50 w30 w10", "50 26 16 0 ", 0);
        day("the fourth is not reached", "f50 w100 w100 w100", "50 100 100 76 ", 1);
        day("the third is", "f50 w100 w100", "26 100 76 ", 0);
        day("as casks are emptied", "f50 f5 w10 w30 f4", "35 0 10 6 0 ", 0);
        day("as long as enough are", "w90 f50 w9 w9 f9", "84 35 0 0 0 ", 0);
        day("food is taken first", "f50 w9 w9 w100", "50 9 9 76 ", 1);
        day("water behind food", "w50 f9 f9 f9", "26 3 0 0 ", 0);
        day("water is not reached", "w50 f9 f9 f30", "50 9 9 6 ", 1);
        day("what is there", "f6 f6 f6 w5 w6", "0 0 0 0 0 ", 1);
        String eighteen = "w500 f500 ".repeat(9);
        day("the twentieth cask", eighteen + "w24 f24", eighteen.replaceAll("[wf]", "") + "0 0 ", 0);
        twoDays();
    }

    private static void day(String what, String casks, String due, int sick) {
        SquareRig ship = new SquareRig();
        for (String cask : casks.isEmpty() ? new String[0] : casks.split(" ")) {
            ship.stow(cask.charAt(0) == 'w', Integer.parseInt(cask.substring(1)));
        }
        ship.sail(1439);
        String before = Voyage.casks(ship);
        ship.sail(1);
        Check.same(what + ", before", before, casks.replaceAll("[wf]", "") + (casks.isEmpty() ? "" : " "));
        Check.same(what, Voyage.casks(ship), due);
        Check.same(what + ", sick", ship.sick(0) + " " + ship.sick(1), sick + " " + sick);
    }

    private static void twoDays() {
        SquareRig ship = new SquareRig();
        ship.stow(false, 60);
        ship.stow(true, 50);
        ship.stow(true, 46);
        ship.stow(true, 1);
        Voyage.sailFar(ship, 1440);
        Check.same("the first day", Voyage.casks(ship) + ship.sick(0), "60 50 23 0 1");
        Voyage.sailFar(ship, 1440);
        Check.same("the second day", Voyage.casks(ship) + ship.sick(0), "36 49 0 0 0");
        Voyage.sailFar(ship, 1440);
        Check.same("the third day", Voyage.casks(ship) + ship.sick(0), "12 25 0 0 0");
        Voyage.sailFar(ship, 1440);
        Check.same("the fourth day", Voyage.casks(ship) + ship.sick(0), "0 1 0 0 1");
    }
}
