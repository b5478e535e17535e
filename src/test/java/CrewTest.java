/** 'Orders' of the document's terms, and what a minute does to the watches, sentence by sentence. */
public final class CrewTest {
    private CrewTest() {
    }

    public static void main(String[] args) {
        watchesGoRound();
        watchesTire();
        watchesRest();
        allTireIfCalledThen();
        tiredIsAddedInTwentieths();
        tiredAsAnOrderBegins();
        tiredOfTheWatchOnDeck();
        settingInVain();
        mendingInVain();
        riggingInVain();
        inVainOnASprungMast();
        inVainAsItIsDone();
        doneThoughItWasInVainWhenGiven();
        handsOfTheWatchOnDeck();
        handsOfBothWatches();
        handsStayAtAnOrder();
        handsAreNotLessThanNone();
        handsWhoAreSick();
        sickUpToTwelve();
        sickDownToNone();
        ordersUpToAHundred();
        statesOfAnOrder();
        Check.end();
    }

    private static SquareRig behind(int minutes, boolean all) {
        SquareRig ship = new SquareRig();
        ship.callAll(all);
        Voyage.sailFar(ship, minutes);
        return ship;
    }

    private static String tired(SquareRig ship) {
        return ship.tired(0) + " " + ship.tired(1);
    }

    private static String sick(SquareRig ship) {
        return ship.sick(0) + " " + ship.sick(1);
    }

    /** "If it can be divided by 240, the other watch comes on deck, the watch 0 being there at first" */
    private static void watchesGoRound() {
        SquareRig ship = new SquareRig();
        for (int round = 0; round < 40; round++) {
            Check.same("on deck from " + ship.minute(), ship.watch(), round % 2);
            ship.sail(239);
            Check.same("on deck still in " + ship.minute(), ship.watch(), round % 2);
            ship.sail(1);
        }
        SquareRig far = new SquareRig();
        far.sail(1500);
        Check.same("six rounds", far.watch(), 0);
        far.sail(180);
        Check.same("seven", far.watch(), 1);
    }

    /** "the watch that was there is 5 more tired, up to 60" */
    private static void watchesTire() {
        SquareRig ship = behind(239, false);
        Check.same("not yet", tired(ship), "0 0");
        ship.sail(1);
        Check.same("who was there", tired(ship), "5 0");
        for (int rounds = 11; rounds <= 14; rounds++) {
            SquareRig all = behind(240 * rounds, true);
            int due = rounds < 12 ? 5 * rounds : 60;
            Check.same("both, up to 60", tired(all), due + " " + due);
        }
        SquareRig sixty = behind(240 * 12, true);
        sixty.callAll(false);
        sixty.sail(240);
        Check.same("60 is not 65, and the other one rests", tired(sixty), "60 55");
    }

    /** "the other one 5 less, down to 0" */
    private static void watchesRest() {
        SquareRig ship = behind(240, false);
        ship.sail(240);
        Check.same("0 rests, and 1 was there", tired(ship), "0 5");
        ship.sail(240);
        Check.same("1 rests down to 0", tired(ship), "5 0");
        SquareRig never = behind(240, false);
        Check.same("0 is not -5", never.tired(1), 0);
        SquareRig down = behind(480, true);
        down.callAll(false);
        Voyage.sailFar(down, 480 * 5);
        Check.same("each tires and rests in turn", tired(down), "10 10");
    }

    /** "with all hands called, both are 5 more tired": all that counts is that they are as the watch goes round. */
    private static void allTireIfCalledThen() {
        SquareRig late = behind(239, false);
        late.callAll(true);
        late.sail(1);
        Check.same("called in the last minute", tired(late) + " " + late.watch(), "5 5 1");
        SquareRig early = behind(239, true);
        early.callAll(false);
        early.sail(1);
        Check.same("sent below before it", tired(early), "5 0");
        SquareRig all = behind(480, true);
        Check.same("the rounds go on", tired(all) + " " + all.watch(), "10 10 0");
    }

    /** "A twentieth of how tired the watch is .., cut, is added to the minutes" */
    private static void tiredIsAddedInTwentieths() {
        int[] rounds = {0, 3, 4, 7, 8, 11, 12, 13};
        int[] added = {0, 0, 1, 1, 2, 2, 3, 3};
        for (int i = 0; i < rounds.length; i++) {
            takes('b', 2 + added[i], rounds[i]);
            takes('s', 3 + added[i], rounds[i]);
            takes('m', 20 + added[i], rounds[i]);
            takes('r', 120 + added[i], rounds[i]);
        }
    }

    private static void takes(char kind, int minutes, int rounds) {
        SquareRig ship = behind(240 * rounds, true);
        ship.order(kind, 0, 0);
        ship.sail(1 + minutes);
        Check.same(kind + " takes more than a minute less, tired by " + rounds, ship.state(0), 'b');
        ship.sail(1);
        Check.same(kind + " takes " + minutes, ship.state(0), kind == 'm' || kind == 'r' ? 'v' : 'd');
    }

    /** ".. as an order begins": not as it is given, nor while it is being done. */
    private static void tiredAsAnOrderBegins() {
        SquareRig ship = behind(958, true);
        ship.order('b', 0, 1);
        ship.sail(1);
        ship.order('b', 1, 1);
        Check.same("both are given by 15", tired(ship), "15 15");
        ship.sail(1);
        Check.same("one began by 15, the other begins by 20", tired(ship) + " " + Voyage.states(ship, 2), "20 20 bw");
        ship.sail(1);
        Check.same("both are being done", Voyage.states(ship, 2), "bb");
        ship.sail(1);
        Check.same("2 minutes", Voyage.states(ship, 2), "db");
        ship.sail(1);
        Check.same("not 2", Voyage.states(ship, 2), "db");
        ship.sail(1);
        Check.same("but 3", Voyage.log(ship), "d961 d963");
    }

    /** "how tired the watch is that is on deck" */
    private static void tiredOfTheWatchOnDeck() {
        SquareRig ship = behind(960, true);
        ship.callAll(false);
        ship.sail(240);
        Check.same("1 is on deck", ship.watch() + " " + tired(ship), "1 25 15");
        ship.order('b', 0, 1);
        ship.sail(3);
        Check.same("not done", ship.state(0), 'b');
        ship.sail(1);
        Check.same("15 add none", ship.state(0), 'd');
        SquareRig other = behind(720, true);
        other.callAll(false);
        other.sail(240);
        Check.same("0 is on deck", other.watch() + " " + tired(other), "0 10 20");
        other.order('b', 0, 1);
        other.sail(4);
        Check.same("10 add none", other.state(0), 'd');
        other.sail(236);
        other.sail(240);
        other.callAll(true);
        other.sail(240);
        other.callAll(false);
        Check.same("1 is on deck, and more tired", other.watch() + " " + tired(other), "1 15 25");
        other.order('b', 0, 1);
        other.sail(4);
        Check.same("25 add one", other.state(1), 'b');
        other.sail(1);
        Check.same("just one", other.state(1), 'd');
        // With all called it is the watch that has its turn: 15 of it, and 25 of the other one.
        SquareRig all = behind(960, true);
        all.callAll(false);
        all.sail(240);
        all.callAll(true);
        Check.same("both are on deck", all.watch() + " " + tired(all), "1 25 15");
        all.order('b', 0, 1);
        all.sail(4);
        Check.same("15 of the turn add none", all.state(0), 'd');
    }

    /** "if, as it is done, it sets a sail whose rope has parted" */
    private static void settingInVain() {
        SquareRig ship = OrdersTest.torn();
        ship.wind(10, 0);
        for (int how = 0; how <= 2; how++) {
            Check.same("to " + how, Voyage.give(ship, 's', 3, how) + " " + ship.spread(3), "v -1");
            Check.same("its line", ship.line(ship.lines() - 1), 'v');
        }
        Check.same("another sail", Voyage.give(ship, 's', 4, 2) + " " + ship.spread(4), "d 2");
        Check.same("its line", ship.line(ship.lines() - 1), 'd');
        for (int sail = 0; sail < 9; sail++) {
            for (int how = 0; how <= 2; how++) {
                Check.same("a whole one", Voyage.give(new SquareRig(), 's', sail, how), 'd');
            }
        }
    }

    /** "or mends one .. that has not" */
    private static void mendingInVain() {
        for (int sail = 0; sail < 9; sail++) {
            SquareRig ship = new SquareRig();
            Check.same("mending a whole one", Voyage.give(ship, 'm', sail, 0) + " " + ship.spread(sail), "v 0");
        }
        // A worn rope has not parted, and stays worn.
        SquareRig worn = Voyage.rigged("000200000", 0, 3, 0);
        worn.wind(10, 8);
        worn.sail(10);
        worn.wind(10, 0);
        Check.same("mending a worn one", Voyage.give(worn, 'm', 3, 0) + " " + worn.strength(3) + " " + worn.spread(3), "v 890 2");
        SquareRig torn = OrdersTest.torn();
        Check.same("mending a parted one", Voyage.give(torn, 'm', 3, 0) + " " + torn.strength(3) + " " + torn.spread(3), "d 900 0");
        Check.same("mending it once more", Voyage.give(torn, 'm', 3, 0), 'v');
    }

    /** "or rigs one that has not" */
    private static void riggingInVain() {
        for (int mast = 0; mast < 3; mast++) {
            Check.same("rigging a whole one", Voyage.give(new SquareRig(), 'r', mast, 0), 'v');
        }
        SquareRig ship = OrdersTest.sprung();
        Check.same("another one", Voyage.give(ship, 'r', 0, 0) + " " + ship.isSprung(1), "v true");
        Check.same("a sprung one", Voyage.give(ship, 'r', 1, 0) + " " + ship.isSprung(1), "d false");
        // "it is not sprung any more, but its ropes have parted still"
        Check.same("its ropes", Voyage.spreads(ship), "0 0 0 -1 -1 -1 0 0 0");
        Check.same("once more", Voyage.give(ship, 'r', 1, 0), 'v');
    }

    /** "or if the mast of the sail is sprung"; the yards of such a mast can be braced. */
    private static void inVainOnASprungMast() {
        SquareRig ship = Voyage.rigged("220000021", -4, 0, 0);
        ship.wind(7, 11);
        ship.sail(1);
        ship.wind(7, 0);
        Check.same("sprung", ship.isSprung(0), true);
        for (int sail : new int[] {0, 1, 2, 7}) {
            Check.same("setting " + sail, Voyage.give(ship, 's', sail, 1), 'v');
            Check.same("furling " + sail, Voyage.give(ship, 's', sail, 0), 'v');
            Check.same("mending " + sail, Voyage.give(ship, 'm', sail, 0) + " " + ship.spread(sail), "v -1");
        }
        for (int sail : new int[] {3, 4, 5, 6, 8}) {
            Check.same("setting " + sail, Voyage.give(ship, 's', sail, 1) + " " + ship.spread(sail), "d 1");
        }
        for (int how = -4; how <= 4; how += 4) {
            Check.same("bracing", Voyage.give(ship, 'b', 0, how) + " " + ship.braced(0), "d " + how);
        }
        Check.same("rigging", Voyage.give(ship, 'r', 0, 0), 'd');
        Check.same("setting then", Voyage.give(ship, 's', 7, 1), 'v');
        Check.same("mending then", Voyage.give(ship, 'm', 7, 0) + " " + ship.strength(7), "d 900");
        Check.same("setting at last", Voyage.give(ship, 's', 7, 1) + " " + ship.spread(7), "d 1");
    }

    /** "as it is done": it was not in vain as it began. */
    private static void inVainAsItIsDone() {
        SquareRig ship = OrdersTest.sprung();
        ship.callAll(true);
        ship.order('r', 1, 0);
        ship.order('r', 1, 0);
        int last = ship.lines();
        ship.sail(121);
        Check.same("none yet", ship.lines() + " " + ship.isSprung(1), last + " true");
        ship.sail(1);
        Check.same("the second one comes too late", ship.line(last) + " " + ship.line(last + 1), "d v");
        Check.same("in one minute", ship.lineMinute(last) + " " + ship.lineMinute(last + 1), ship.minute() - 1 + " " + (ship.minute() - 1));
        ship.order('m', 4, 0);
        ship.order('m', 4, 0);
        ship.sail(22);
        Check.same("of two mendings", ship.line(last + 2) + " " + ship.line(last + 3), "d v");
        // The minute in which it is done comes first in that minute: before the rope parts, or behind it.
        Check.same("done, and then the rope parts", setting(4), "d -1 d p");
        Check.same("the rope parts, and then in vain", setting(3), "v -1 p v");
    }

    /** An order to set the sail 3 full, and a storm behind so many minutes. */
    private static String setting(int minutes) {
        SquareRig ship = Voyage.rigged("000200000", 0, 3, 0);
        int lines = ship.lines();
        int order = ship.order('s', 3, 2);
        ship.sail(minutes);
        ship.wind(10, 12);
        ship.sail(5 - minutes);
        return ship.state(order) + " " + ship.spread(3) + " " + ship.line(lines) + " " + ship.line(lines + 1);
    }

    /** "as it is done": what was in vain when it was given, or begun, may not be then. */
    private static void doneThoughItWasInVainWhenGiven() {
        SquareRig ship = Voyage.rigged("000200000", 0, 3, 0);
        int mending = ship.order('m', 3, 0);
        ship.sail(10);
        Check.same("being done on a whole rope", ship.state(mending), 'b');
        ship.wind(10, 12);
        ship.sail(1);
        Check.same("which parts now", ship.spread(3), -1);
        ship.wind(10, 0);
        ship.sail(11);
        Check.same("and is mended", ship.state(mending) + " " + ship.spread(3) + " " + ship.strength(3), "d 0 900");
        SquareRig setting = OrdersTest.torn();
        setting.wind(10, 0);
        int first = setting.order('m', 3, 0);
        setting.sail(19);
        int then = setting.order('s', 3, 2);
        setting.sail(5);
        Check.same("mended, and set a minute later", setting.state(first) + " " + setting.state(then) + " " + setting.spread(3), "d d 2");
    }

    /** "Hands are those of the watch on deck who are not sick" */
    private static void handsOfTheWatchOnDeck() {
        SquareRig ship = new SquareRig();
        Check.same("12", ship.free(), 12);
        ship.sail(240);
        Check.same("12 of the other one", ship.free(), 12);
        ship.sail(1200);
        Check.same("11, with one sick", ship.free() + " " + sick(ship), "11 1 1");
    }

    /** "or of both, if all are called" */
    private static void handsOfBothWatches() {
        SquareRig ship = new SquareRig();
        ship.callAll(true);
        Check.same("24", ship.free(), 24);
        for (int mast = 0; mast < 3; mast++) {
            ship.order('r', mast, 0);
        }
        ship.order('s', 2, 1);
        ship.sail(2);
        Check.same("three of 8, and none is left for 3", Voyage.states(ship, 4) + ship.free(), "bbbw0");
        ship.sail(240);
        Check.same("behind the round too", ship.free() + " " + ship.watch(), "24 1");
        ship.callAll(false);
        Check.same("12 again", ship.free(), 12);
    }

    /** "less those who are at an order; whoever is at one stays at it when the watch goes below" */
    private static void handsStayAtAnOrder() {
        SquareRig ship = new SquareRig();
        ship.sail(200);
        ship.order('r', 0, 0);
        ship.sail(39);
        Check.same("8 are at it", ship.free() + " " + ship.watch(), "4 0");
        ship.sail(1);
        Check.same("behind the round too", ship.free() + " " + ship.watch(), "4 1");
        ship.order('b', 0, 1);
        ship.sail(5);
        Check.same("5 are too many", Voyage.states(ship, 2), "bw");
        ship.sail(76);
        Check.same("until it is done", ship.minute() + Voyage.states(ship, 2) + ship.free(), "321bw4");
        ship.sail(1);
        Check.same("in the minute 321", Voyage.states(ship, 2) + ship.free(), "vb7");
        SquareRig below = new SquareRig();
        below.callAll(true);
        below.order('r', 0, 0);
        below.order('m', 0, 0);
        below.sail(2);
        below.callAll(false);
        Check.same("8 and 4 of 12", below.free() + Voyage.states(below, 2), "0bb");
        below.sail(20);
        Check.same("4 are done", below.free() + Voyage.states(below, 2), "4bv");
    }

    /** "Returns the hands, 0 at least." */
    private static void handsAreNotLessThanNone() {
        SquareRig ship = new SquareRig();
        ship.callAll(true);
        ship.order('r', 0, 0);
        ship.order('r', 1, 0);
        ship.order('s', 0, 1);
        ship.sail(2);
        Check.same("22 of 24", ship.free(), 2);
        ship.callAll(false);
        Check.same("22 of 12", ship.free(), 0);
        ship.order('s', 2, 1);
        ship.sail(3);
        Check.same("16 of 12", ship.free() + Voyage.states(ship, 4), "0bbdw");
        ship.callAll(true);
        Check.same("16 of 24", ship.free(), 8);
        ship.callAll(false);
        ship.sail(116);
        Check.same("none begins", ship.minute() + Voyage.states(ship, 4), "121bbdw");
        ship.sail(1);
        Check.same("before they are done", Voyage.states(ship, 4) + ship.free(), "vvdb9");
    }

    private static void handsWhoAreSick() {
        // 12 at orders, and one more of each watch falls sick meanwhile.
        SquareRig ship = new SquareRig();
        ship.sail(1430);
        ship.order('r', 0, 0);
        ship.order('m', 0, 0);
        ship.sail(9);
        Check.same("all 12", ship.free() + " " + sick(ship), "0 0 0");
        ship.sail(1);
        Check.same("12 of 11", ship.free() + " " + sick(ship), "0 1 1");
        ship.sail(13);
        Check.same("8 of 11", ship.free() + Voyage.states(ship, 2), "3bv");
    }

    /** "one more is sick in each watch, up to 12" */
    private static void sickUpToTwelve() {
        SquareRig ship = new SquareRig();
        for (int day = 1; day <= 14; day++) {
            ship.sail(1440);
            int due = Math.min(12, day);
            Check.same("behind " + day + " days", sick(ship) + " " + ship.free(), due + " " + due + " " + (12 - due));
        }
        ship.callAll(true);
        Check.same("none of both", ship.free(), 0);
        ship.order('s', 2, 1);
        ship.sail(100);
        Check.same("nobody is there for it", ship.state(0), 'w');
    }

    /** "and otherwise one fewer in each", down to none */
    private static void sickDownToNone() {
        SquareRig ship = new SquareRig();
        ship.sail(1440);
        ship.sail(1440);
        ship.stow(false, 500);
        ship.stow(true, 500);
        for (int due : new int[] {1, 0, 0, 0}) {
            ship.sail(1440);
            Check.same("well fed", sick(ship), due + " " + due);
        }
        ship.jettison();
        ship.sail(1440);
        Check.same("without water", sick(ship), "1 1");
    }

    /** "At most 100 orders have numbers from 0 on." */
    private static void ordersUpToAHundred() {
        SquareRig ship = new SquareRig();
        for (int i = 0; i < 100; i++) {
            Check.same("the number", ship.order('s', i % 9, i % 3), i);
        }
        Check.raises("the number 100", IllegalStateException.class, () -> ship.order('s', 0, 0));
        Voyage.sailFar(ship, 600);
        for (int i = 0; i < 100; i++) {
            Check.same("each is done", ship.state(i), 'd');
        }
        Check.raises("and none more is taken", IllegalStateException.class, () -> ship.order('b', 0, 0));
    }

    /** "'w' it waits, 'b' it is being done, 'd' done, 'v' in vain, 'x' taken back" */
    private static void statesOfAnOrder() {
        SquareRig ship = new SquareRig();
        ship.order('s', 7, 2);
        ship.order('m', 7, 0);
        ship.order('b', 1, 1);
        Check.same("all wait", Voyage.states(ship, 3), "www");
        Check.same("two wait then", ship.belay(2), 2);
        Check.same("one is taken back", Voyage.states(ship, 3), "wwx");
        ship.sail(2);
        Check.same("two are being done", Voyage.states(ship, 3), "bbx");
        ship.sail(3);
        Check.same("one is done", Voyage.states(ship, 3), "dbx");
        ship.sail(17);
        Check.same("one in vain", Voyage.states(ship, 3), "dvx");
        ship.sail(500);
        Check.same("so they stay", Voyage.states(ship, 3) + ship.braced(1), "dvx0");
    }
}
