import java.util.NoSuchElementException;
import java.util.Random;

/** Any call with any numbers, also far behind the 512th: nothing but what the document names is thrown, and all calls end. */
public final class AnyCallTest {
    private static final int[] NUMBERS = {
        Integer.MIN_VALUE, Integer.MIN_VALUE + 1, -10000, -9999, -5, -4, -3, -2, -1, 0, 1, 2, 3, 4, 5, 6, 7, 8, 9, 10,
        11, 12, 13, 15, 16, 17, 19, 20, 21, 31, 32, 99, 100, 199, 200, 201, 500, 501, 1500, 1501, 9999, 10000,
        Integer.MAX_VALUE - 1, Integer.MAX_VALUE};
    private static final char[] KINDS = {0, 'a', 'b', 'm', 'r', 's', 't', 'S', 255, '\uffff'};

    private final Random chance;
    private final SquareRig ship = new SquareRig();

    private AnyCallTest(int seed) {
        chance = new Random(seed);
    }

    public static void main(String[] args) {
        for (int seed = 0; seed < 150; seed++) {
            AnyCallTest any = new AnyCallTest(seed);
            for (int call = 0; call < (seed % 30 == 0 ? 3000 : 400); call++) {
                any.call(any.chance.nextInt(37));
            }
        }
        theLongestVoyage();
        Check.end();
    }

    private int any() {
        return NUMBERS[chance.nextInt(NUMBERS.length)];
    }

    private void call(int method) {
        int a = any();
        int b = any();
        char kind = KINDS[chance.nextInt(KINDS.length)];
        boolean yes = chance.nextBoolean();
        String before = Voyage.facts(ship);
        Class<?> got = null;
        try {
            if (method < 20) {
                tell(method, kind, a, b, yes);
            } else {
                ask(method, a);
            }
        } catch (RuntimeException e) {
            got = e.getClass();
        }
        if (got != null) {
            Check.same("what throws changes nothing", Voyage.facts(ship), before);
            Check.same(method + " may throw " + got, mayThrow(method, got), true);
        }
    }

    private void tell(int method, char kind, int a, int b, boolean yes) {
        switch (method) {
            case 0: case 1: ship.wind(a, b); break;
            case 2: ship.current(a, b); break;
            case 3: ship.helm(a); break;
            case 4: case 5: case 6: case 7: ship.order(kind, a, b); break;
            case 8: ship.order(kind, chance.nextInt(9), chance.nextInt(3)); break;
            case 9: ship.belay(a); break;
            case 10: ship.callAll(yes); break;
            case 11: case 12: ship.stow(yes, a); break;
            case 13: ship.jettison(); break;
            case 14: case 15: case 16: ship.sail(a); break;
            default: ship.wind(chance.nextInt(32), chance.nextInt(13)); break;
        }
    }

    private void ask(int method, int a) {
        switch (method) {
            case 20: ship.state(a); break;
            case 21: ship.tired(a); break;
            case 22: ship.sick(a); break;
            case 23: ship.left(a); break;
            case 24: ship.force(a); break;
            case 25: ship.spread(a); break;
            case 26: ship.strength(a); break;
            case 27: ship.braced(a); break;
            case 28: ship.isSprung(a); break;
            case 29: ship.line(a); break;
            case 30: ship.lineMinute(a); break;
            case 31: ship.meanStrength(); break;
            case 32: ship.isSame(); break;
            default: ship.noon(); break;
        }
    }

    private static boolean mayThrow(int method, Class<?> got) {
        boolean isArgument = got == IllegalArgumentException.class;
        boolean isState = got == IllegalStateException.class;
        boolean isIndex = got == IndexOutOfBoundsException.class;
        if (method < 4 || method >= 14 && method <= 16) {
            return isArgument;
        }
        if (method <= 8 || method == 11 || method == 12) {
            return isArgument || isState;
        }
        if (method == 9) {
            return isIndex || got == UnsupportedOperationException.class;
        }
        if (method == 13) {
            return got == NoSuchElementException.class;
        }
        if (method >= 20 && method <= 30) {
            return isIndex;
        }
        return method == 31 && got == ArithmeticException.class;
    }

    /** All 512 calls, each as long as can be, and isSame in between. */
    private static void theLongestVoyage() {
        SquareRig ship = new SquareRig();
        ship.callAll(true);
        for (int i = 0; i < 100; i++) {
            ship.order(i % 2 == 0 ? 's' : 'b', i % 3, i % 3);
        }
        for (int i = 0; i < 205; i++) {
            ship.sail(1500);
            Check.same("same behind " + i, ship.isSame(), true);
        }
        Check.same("the minutes", ship.minute(), 205 * 1500);
    }
}
