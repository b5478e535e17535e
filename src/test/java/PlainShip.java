import java.util.ArrayList;
import java.util.List;

/**
 * The document once more, in its plainest form: every force is reckoned anew wherever it is
 * asked for, and nothing is kept that could be reckoned. The tests compare SquareRig with it.
 */
final class PlainShip {
    static final int[] NEEDS = {6, 5, 3, 8, 6, 3, 4, 3, 4};
    private static final int[] AREAS = {8, 7, 3, 10, 9, 4, 5, 4, 6};
    private static final int[] MAST_OF = {0, 0, 0, 1, 1, 1, 2, 0, 2};

    int from;
    int wind;
    int currentEast;
    int currentNorth;
    int helm;
    int minute;
    int heading;
    int speed;
    int swing;
    int lastSide;
    long east;
    long north;
    long reckonedEast;
    long reckonedNorth;
    int turn;
    boolean all;
    final int[] tired = new int[2];
    final int[] sick = new int[2];
    final int[] spread = new int[9];
    final int[] rope = {900, 900, 900, 900, 900, 900, 900, 900, 900};
    final boolean[] parted = new boolean[9];
    final int[] braced = new int[3];
    final boolean[] sprung = new boolean[3];
    // Each order: kind, what, how, the minute in which it was given, state, minutes left.
    final List<int[]> orders = new ArrayList<>();
    // Each cask: 1 for water, units.
    final List<int[]> casks = new ArrayList<>();
    // Each line: letter, minute.
    final List<int[]> log = new ArrayList<>();

    int off() {
        int right = 0;
        while ((heading + right) % 32 != from) {
            right++;
        }
        return right <= 16 ? right : -(32 - right);
    }

    int side() {
        return off() % 16 == 0 ? 0 : off() < 0 ? -1 : 1;
    }

    int best() {
        int best = Math.min(4, (16 - Math.abs(off())) / 2);
        return off() < 0 ? -best : best;
    }

    int push(int sail) {
        int points = Math.abs(off());
        if (sail >= 7) {
            return points < 4 ? 0 : new int[] {5, 6, 7, 8, 8, 7, 7, 6, 5, 4, 3, 2, 2}[points - 4];
        }
        int push = points < 6 ? -2 * (6 - points) : new int[] {4, 6, 8, 9, 10, 10, 10, 9, 9, 8, 8}[points - 6];
        return Math.max(-12, push - 2 * Math.abs(best() - braced[MAST_OF[sail]]));
    }

    int force(int sail) {
        return AREAS[sail] * spread[sail] * wind * push(sail) / 2;
    }

    int strainOf(int mast) {
        int sum = 0;
        for (int sail = 0; sail < 9; sail++) {
            sum += MAST_OF[sail] == mast ? Math.abs(force(sail)) : 0;
        }
        return sum;
    }

    int free() {
        int hands = 12 - sick[turn] + (all ? 12 - sick[1 - turn] : 0);
        for (int[] order : orders) {
            hands -= order[4] == 'b' ? needs(order) : 0;
        }
        return Math.max(0, hands);
    }

    private static int needs(int[] order) {
        return order[0] == 's' ? NEEDS[order[1]] : order[0] == 'b' ? 5 : order[0] == 'm' ? 4 : 8;
    }

    private void write(int letter) {
        log.add(new int[] {letter, minute});
        if (log.size() > 200) {
            log.remove(0);
        }
    }

    void sail(int minutes) {
        for (int i = 0; i < minutes; i++) {
            orders();
            ropes();
            speed();
            turn();
            go();
            minute++;
            time();
        }
    }

    private void orders() {
        for (int[] order : orders) {
            if (order[4] == 'b' && --order[5] == 0) {
                order[4] = done(order) ? 'd' : 'v';
                write(order[4]);
            }
        }
        for (int[] order : orders) {
            if (order[4] == 'w' && order[3] < minute && needs(order) <= free()) {
                order[4] = 'b';
                int minutes = order[0] == 's' ? 3 : order[0] == 'b' ? 2 : order[0] == 'm' ? 20 : 120;
                order[5] = minutes + tired[turn] / 20;
            }
        }
    }

    private boolean done(int[] order) {
        int what = order[1];
        if (order[0] == 'b') {
            braced[what] = order[2];
            return true;
        }
        if (order[0] == 'r') {
            boolean was = sprung[what];
            sprung[what] = false;
            return was;
        }
        if (sprung[MAST_OF[what]] || parted[what] != (order[0] == 'm')) {
            return false;
        }
        if (order[0] == 's') {
            spread[what] = order[2];
        } else {
            parted[what] = false;
            rope[what] = 900;
        }
        return true;
    }

    private void ropes() {
        for (int sail = 0; sail < 9; sail++) {
            int strain = Math.abs(force(sail));
            if (strain > rope[sail]) {
                parted[sail] = true;
                spread[sail] = 0;
                write('p');
            } else if (strain * 2 > rope[sail]) {
                rope[sail]--;
            }
        }
        for (int mast = 0; mast < 3; mast++) {
            if (strainOf(mast) > 2000) {
                sprung[mast] = true;
                write('m');
                for (int sail = 0; sail < 9; sail++) {
                    if (MAST_OF[sail] == mast) {
                        parted[sail] = true;
                        spread[sail] = 0;
                    }
                }
            }
        }
    }

    private void speed() {
        int sum = 0;
        for (int sail = 0; sail < 9; sail++) {
            sum += force(sail);
        }
        int due = sum / (30 + minute / 1440);
        for (int i = 0; i < 2; i++) {
            speed += Integer.compare(due, speed);
        }
    }

    private void turn() {
        swing += helm * speed / 4;
        swing += side() * ((strainOf(2) - strainOf(0)) / 50);
        while (swing >= 100) {
            heading = (heading + 1) % 32;
            swing -= 100;
        }
        while (swing <= -100) {
            heading = (heading + 31) % 32;
            swing += 100;
        }
        if (side() * lastSide == -1) {
            write(Math.abs(off()) <= 8 ? 't' : 'g');
        }
        lastSide = side() == 0 ? lastSide : side();
    }

    private void go() {
        int strain = strainOf(0) + strainOf(1) + strainOf(2);
        int lee = Math.abs(off()) <= 10 ? strain / 200 : 0;
        east += speed * Voyage.eastPart(heading) + lee * Voyage.eastPart(from + 16) + currentEast;
        north += speed * Voyage.northPart(heading) + lee * Voyage.northPart(from + 16) + currentNorth;
    }

    private void time() {
        if (minute % 30 == 0) {
            reckonedEast += 30 * (speed / 10) * 10 * Voyage.eastPart(heading);
            reckonedNorth += 30 * (speed / 10) * 10 * Voyage.northPart(heading);
        }
        if (minute % 240 == 0) {
            tired[turn] = Math.min(60, tired[turn] + 5);
            turn = 1 - turn;
            tired[turn] = all ? Math.min(60, tired[turn] + 5) : Math.max(0, tired[turn] - 5);
        }
        if (minute % 1440 == 0) {
            boolean enough = take(0) & take(1);
            for (int watch = 0; watch < 2; watch++) {
                sick[watch] = enough ? Math.max(0, sick[watch] - 1) : Math.min(12, sick[watch] + 1);
            }
        }
    }

    /** Takes 24 units one by one, each from the topmost cask of the kind that can be reached then. */
    private boolean take(int kind) {
        for (int unit = 0; unit < 24; unit++) {
            int[] found = null;
            int reached = 0;
            for (int i = casks.size() - 1; i >= 0; i--) {
                int[] cask = casks.get(i);
                if (cask[1] > 0 && reached++ < 3 && cask[0] == kind && found == null) {
                    found = cask;
                }
            }
            if (found == null) {
                return false;
            }
            found[1]--;
        }
        return true;
    }
}
