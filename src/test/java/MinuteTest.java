/** 'A minute' of the document's terms: its six steps, sentence by sentence. */
public final class MinuteTest {
    private MinuteTest() {
    }

    public static void main(String[] args) {
        ordersAreHeardLate();
        ordersHaveAMinuteLess();
        handsAreFreeAtOnce();
        ordersAreDoneByRisingNumbers();
        ordersBeginByRisingNumbers();
        oneDoesNotHoldBackOthers();
        doneBeforeTheStrain();
        ropeHoldsItsStrength();
        ropeWearsByMoreThanHalf();
        ropeThatPartsDoesNotWear();
        mastHoldsItsSum();
        mastBearsWhatDidNotPart();
        mastTakesAllItsSails();
        ropesBeforeMasts();
        lostSailsAreFurledAtOnce();
        speedGoesByTwo();
        speedIsCut();
        foulnessByTheDay();
        helmIsCut();
        strainsAreCut();
        helmAndStrainsAreCutApart();
        strainsByTheSide();
        swingOfHundred();
        swingOfTwoHundred();
        turnBehindTheSpeed();
        goesByTheHeadingBehind();
        driftIsCut();
        driftByTheHeadingBehind();
        currentBesides();
        Check.end();
    }

    // ---- step 1

    /** "orders that wait, and were given when the number of the minute was less than it is now, begin" */
    private static void ordersAreHeardLate() {
        for (int minute : new int[] {0, 1, 29, 239, 1439}) {
            SquareRig ship = new SquareRig();
            if (minute > 0) {
                ship.sail(minute);
            }
            ship.order('s', 7, 1);
            ship.sail(1);
            Check.same("in the minute " + minute + " itself", ship.state(0), 'w');
            ship.sail(1);
            Check.same("in the next one", ship.state(0), 'b');
        }
        SquareRig ship = new SquareRig();
        ship.order('s', 7, 1);
        ship.sail(2);
        Check.same("both at once", ship.state(0), 'b');
    }

    /** "Orders that are being done have a minute less; those without any left are done" */
    private static void ordersHaveAMinuteLess() {
        takes('s', 7, 3);
        takes('b', 0, 2);
        takes('m', 7, 20);
        takes('r', 0, 120);
    }

    private static void takes(char kind, int what, int minutes) {
        SquareRig ship = new SquareRig();
        ship.order(kind, what, 0);
        ship.sail(1 + minutes);
        Check.same(kind + ", a minute too early", ship.state(0), 'b');
        Check.same("no line yet", ship.lines(), 0);
        ship.sail(1);
        Check.same(kind + ", in time", ship.state(0), kind == 'm' || kind == 'r' ? 'v' : 'd');
        Check.same("its minute", ship.lineMinute(0), 1 + minutes);
    }

    /** "and their hands are free. Then orders that wait .. begin .. if their hands are free then" */
    private static void handsAreFreeAtOnce() {
        SquareRig ship = new SquareRig();
        ship.order('s', 3, 1);
        ship.order('r', 0, 0);
        ship.sail(4);
        Check.same("not yet", Voyage.states(ship, 2) + ship.free(), "bw4");
        ship.sail(1);
        Check.same("in the same minute", Voyage.states(ship, 2) + ship.free(), "db4");
        ship.sail(120);
        Check.same("so done by then", Voyage.states(ship, 2) + ship.lineMinute(1), "dv124");
    }

    /** "those without any left are done, by rising numbers" */
    private static void ordersAreDoneByRisingNumbers() {
        SquareRig ship = new SquareRig();
        ship.order('r', 0, 0);
        ship.order('s', 3, 1);
        ship.sail(103);
        ship.order('m', 0, 0);
        ship.sail(3);
        Check.same("the last one began before", Voyage.states(ship, 3), "bwb");
        ship.sail(18);
        Check.same("not yet", Voyage.states(ship, 3), "vbb");
        ship.sail(1);
        Check.same("both are done", Voyage.log(ship), "v121 d124 v124");
    }

    /** "begin by rising numbers, if their hands are free then" */
    private static void ordersBeginByRisingNumbers() {
        SquareRig ship = new SquareRig();
        ship.order('r', 0, 0);
        ship.order('m', 0, 0);
        ship.order('b', 0, 1);
        ship.order('s', 3, 1);
        ship.sail(2);
        Check.same("the first ones", Voyage.states(ship, 4) + ship.free(), "bbww0");
        SquareRig other = new SquareRig();
        other.order('s', 3, 1);
        other.order('b', 0, 1);
        other.order('r', 0, 0);
        other.order('m', 0, 0);
        other.sail(2);
        Check.same("the first, and who fits besides", Voyage.states(other, 4) + other.free(), "bwwb0");
    }

    /** "one that cannot does not hold back others" */
    private static void oneDoesNotHoldBackOthers() {
        SquareRig ship = new SquareRig();
        ship.order('b', 0, 1);
        ship.order('s', 3, 1);
        ship.order('s', 3, 2);
        ship.order('s', 2, 1);
        ship.sail(2);
        ship.order('s', 6, 1);
        ship.sail(1);
        Check.same("the others begin", Voyage.states(ship, 5) + ship.free(), "bwwbw4");
        ship.sail(1);
        Check.same("then the first one that fits", Voyage.states(ship, 5) + ship.free(), "dbwbw1");
        ship.sail(1);
        Check.same("and the late one", Voyage.states(ship, 5) + ship.free(), "dbwdb0");
    }

    /** "In it, one behind the other": a sail that is set in a minute feels the wind in it. */
    private static void doneBeforeTheStrain() {
        SquareRig ship = Voyage.rigged("000000000", 0, 3, 0);
        ship.wind(10, 12);
        ship.order('s', 3, 2);
        ship.sail(4);
        Check.same("not yet", ship.spread(3) + " " + ship.lines(), "0 3");
        ship.sail(1);
        Check.same("1200 parts it at once", ship.spread(3) + " " + Voyage.log(ship), "-1 d3 d3 d3 d44 p44");
    }

    // ---- step 2

    /** "If it is more than the strength of its rope, 900 at first, the rope parts" */
    private static void ropeHoldsItsStrength() {
        SquareRig ship = Voyage.rigged("000200000", 0, 3, 0);
        ship.wind(10, 9);
        Check.same("a strain of 900", ship.force(3), 900);
        ship.sail(1);
        Check.same("is held by 900", ship.spread(3) + " " + ship.strength(3), "2 899");
        ship.sail(1);
        Check.same("and not by 899", ship.spread(3), -1);
        Check.same("a line of its minute", ship.line(4) + " " + ship.lineMinute(4), "p 41");
        // "the sail is furled, and cannot be set until it is mended"
        Check.same("furled", ship.force(3), 0);
        Check.same("cannot be set", Voyage.give(ship, 's', 3, 1) + " " + ship.spread(3), "v -1");
        Check.same("can be mended", Voyage.give(ship, 'm', 3, 0) + " " + ship.spread(3) + " " + ship.strength(3), "d 0 900");
        ship.wind(10, 3);
        Check.same("can be set then", Voyage.give(ship, 's', 3, 1) + " " + ship.spread(3), "d 1");
        // "The strain of each sail is the amount of its force": 5 * 12 * 12 is 720, and aback.
        SquareRig aback = Voyage.rigged("000000200", 0, 0, 0);
        aback.wind(0, 12);
        Check.same("a force of -720", aback.force(6), -720);
        aback.sail(180);
        Check.same("worn to it", aback.spread(6) + " " + aback.strength(6), "2 720");
        aback.sail(1);
        Check.same("720 holds it", aback.spread(6) + " " + aback.strength(6), "2 719");
        aback.sail(1);
        Check.same("719 does not", aback.spread(6) + " " + aback.strength(6), "-1 719");
    }

    /** "Otherwise, if twice the strain is more than this strength, it becomes 1 less." */
    private static void ropeWearsByMoreThanHalf() {
        SquareRig ship = Voyage.rigged("000100000", 0, 3, 0);
        ship.wind(10, 9);
        Check.same("a strain of 450", ship.force(3), 450);
        ship.sail(50);
        Check.same("is half of 900", ship.strength(3), 900);
        ship.wind(10, 10);
        ship.sail(1);
        ship.wind(10, 9);
        ship.sail(1);
        Check.same("and more than half of 899", ship.strength(3), 898);
        Check.same("no line", ship.lines(), 4);
        // 440 is just half of 880, and more than half of 879.
        SquareRig just = Voyage.rigged("000100000", 0, 3, 0);
        just.wind(10, 10);
        just.sail(20);
        just.wind(11, 11);
        Check.same("10 * 11 * 8 / 2", just.force(3), 440);
        just.sail(5);
        Check.same("440 does not wear 880", just.strength(3), 880);
        just.wind(10, 10);
        just.sail(1);
        just.wind(11, 11);
        just.sail(1);
        Check.same("and wears 879", just.strength(3), 878);
    }

    /** "Otherwise, ..": a rope that parts keeps its strength, and a furled one too. */
    private static void ropeThatPartsDoesNotWear() {
        SquareRig ship = Voyage.rigged("000200000", 0, 3, 0);
        ship.wind(10, 12);
        ship.sail(1);
        Check.same("it parts as it was", ship.spread(3) + " " + ship.strength(3), "-1 900");
        ship.sail(100);
        Check.same("and stays so", ship.strength(3) + " " + ship.strength(4) + " " + ship.lines(), "900 900 5");
    }

    /** "if the sum of the strains of the sails of a mast .. is more than 2000" */
    private static void mastHoldsItsSum() {
        SquareRig ship = Voyage.rigged("222000020", 2, 0, 0);
        ship.wind(12, 10);
        Check.same("800, 700, 300 and 200", Voyage.strain(ship), 2000);
        ship.sail(1);
        Check.same("2000 is borne", ship.isSprung(0) + " " + Voyage.spreads(ship), "false 2 2 2 0 0 0 0 2 0");
        SquareRig more = Voyage.rigged("220000020", -4, 0, 0);
        more.wind(7, 11);
        Check.same("880, 770 and 352", Voyage.strain(more), 2002);
        more.sail(1);
        Check.same("2002 is not", more.isSprung(0) + " " + Voyage.spreads(more), "true -1 -1 -1 0 0 0 0 -1 0");
        // Of one mast: two masts together bear more.
        SquareRig two = Voyage.rigged("222222222", 3, 3, 3);
        two.wind(10, 8);
        Check.same("of all masts", Voyage.strain(two), 4240);
        two.sail(1);
        Check.same("is borne", two.isSprung(0) + " " + two.isSprung(1) + " " + two.isSprung(2), "false false false");
    }

    /** "of the sails of a mast that did not part" */
    private static void mastBearsWhatDidNotPart() {
        SquareRig ship = Voyage.rigged("222000020", 3, 0, 0);
        ship.wind(10, 12);
        Check.same("960, 840, 360 and 336", Voyage.strain(ship), 2496);
        ship.sail(1);
        Check.same("one parts, and the mast holds", ship.isSprung(0) + " " + Voyage.spreads(ship), "false -1 2 2 0 0 0 0 2 0");
        Check.same("one line", ship.line(ship.lines() - 1) + " " + ship.line(ship.lines() - 2), "p d");
    }

    /** "all its sails are furled, and their ropes have parted, without lines of their own in the log" */
    private static void mastTakesAllItsSails() {
        SquareRig fore = Voyage.rigged("220000021", -4, 0, 0);
        fore.wind(7, 11);
        int lines = fore.lines();
        fore.sail(1);
        Check.same("also the furled one, none of another mast", Voyage.spreads(fore), "-1 -1 -1 0 0 0 0 -1 1");
        Check.same("sprung", fore.isSprung(0) + " " + fore.isSprung(1) + " " + fore.isSprung(2), "true false false");
        Check.same("one line", fore.lines() + " " + fore.line(lines), lines + 1 + " m");
        fore.sail(60);
        Check.same("no other line comes", fore.lines(), lines + 1);
        SquareRig main = Voyage.rigged("000222002", 0, 0, 0);
        main.wind(16, 11);
        Check.same("880, 792 and 352", main.force(3) + " " + main.force(4) + " " + main.force(5), "880 792 352");
        main.sail(1);
        Check.same("the mast 1", main.isSprung(1) + " " + Voyage.spreads(main), "true 0 0 0 -1 -1 -1 0 0 2");
        // The ropes wear before the mast is sprung, and keep their strengths then.
        Check.same("their strengths", main.strength(3) + " " + main.strength(4) + " " + main.strength(5), "899 899 900");
    }

    /** "Then ..": first all ropes, by rising numbers, and then all masts. */
    private static void ropesBeforeMasts() {
        SquareRig ship = Voyage.rigged("222200020", 3, 3, 0);
        ship.wind(10, 11);
        String before = Voyage.log(ship);
        // 880, 770, 330 and 308 spring the mast 0, and 1100 parts the rope 3.
        ship.sail(1);
        Check.same("the rope of the mast 1 first", Voyage.log(ship).substring(before.length()), " p40 m40");
        SquareRig both = Voyage.rigged("222222020", 0, 0, 0);
        both.wind(16, 11);
        before = Voyage.log(both);
        both.sail(1);
        Check.same("704, 616, 264 and 88 hold, 880, 792 and 352 do not", Voyage.log(both).substring(before.length()), " m40");
        Check.same("the mast 1", both.isSprung(0) + " " + both.isSprung(1), "false true");
        twoMastsAtOnce();
    }

    private static void twoMastsAtOnce() {
        // 7 points off the bow, braced -4, the push is 6 - 16; braced 4 it is 6.
        SquareRig ship = Voyage.rigged("220222020", -4, -4, 0);
        ship.wind(7, 11);
        String before = Voyage.log(ship);
        ship.sail(1);
        // 1100 and 990 part the ropes 3 and 4, and 440 is left; 880, 770 and 352 spring the mast 0.
        Check.same("two ropes and a mast", Voyage.log(ship).substring(before.length()), " p40 p40 m40");
        // At 9 the ropes hold: 900, 810 and 360 are 2070, and 720, 630 and 288 are 1638.
        SquareRig main = Voyage.rigged("222222222", 3, 3, 3);
        main.wind(10, 9);
        before = Voyage.log(main);
        main.sail(1);
        Check.same("the mast 1 alone", Voyage.log(main).substring(before.length()), " m40");
    }

    /** "the sail is furled", "all its sails are furled": in the later steps of that minute they have no force. */
    private static void lostSailsAreFurledAtOnce() {
        // 1200 parts the rope 3; the 180 of the sail 2 are left, too little for a drift.
        SquareRig ship = Voyage.rigged("001200000", 3, 3, 0);
        ship.wind(10, 12);
        Check.same("180 and 1200", ship.force(2) + " " + ship.force(3), "180 1200");
        ship.sail(1);
        Check.same("one is lost", ship.spread(2) + " " + ship.spread(3) + " " + ship.force(3), "1 -1 0");
        Check.same("no drift by it", ship.east() + " " + ship.north() + " " + ship.speed(), "0 200 2");
        ship.sail(2);
        Check.same("180 / 30, and not 1380 / 30", ship.speed(), 6);
        ship.sail(2);
        Check.same("it stays at that", ship.speed(), 6);
        SquareRig mast = Voyage.rigged("000222000", 0, 0, 0);
        mast.wind(16, 11);
        mast.sail(1);
        Check.same("no speed by a mast that is lost", mast.isSprung(1) + " " + mast.speed() + " " + mast.north(), "true 0 0");
        // A mast 0 that is lost does not turn her: 2002 / 50 would be 40 a minute.
        SquareRig fore = Voyage.rigged("220000020", -4, 0, 0);
        fore.wind(7, 8);
        Check.same("1456", Voyage.strain(fore), 1456);
        fore.sail(3);
        Check.same("3 times -29", fore.heading(), 0);
        fore.wind(7, 11);
        fore.sail(1);
        Check.same("lost, without -40 more", fore.isSprung(0) + " " + fore.heading(), "true 0");
    }

    // ---- step 3

    /** "The speed, in tenths of a knot, goes by at most 2 towards .." */
    private static void speedGoesByTwo() {
        // The sail 5 full, from astern: 32 for each strength; from ahead: -48.
        SquareRig ship = Voyage.rigged("000002000", 0, 0, 0);
        speeds(ship, 16, 1, "1 1");
        speeds(ship, 16, 2, "2 2");
        speeds(ship, 16, 3, "3 3");
        speeds(ship, 16, 5, "5 5");
        speeds(ship, 16, 0, "3 1 0 0");
        speeds(ship, 16, 2, "2 2");
        speeds(ship, 16, 0, "0 0");
        speeds(ship, 16, 3, "2 3 3");
        speeds(ship, 16, 0, "1 0 0");
        speeds(ship, 16, 4, "2 4 4");
        speeds(ship, 16, 0, "2 0 0");
        speeds(ship, 0, 2, "-2 -3 -3");
        speeds(ship, 0, 0, "-1 0 0");
        speeds(ship, 0, 2, "-2 -3 -3");
        speeds(ship, 16, 3, "-1 1 3 3");
        speeds(ship, 0, 1, "1 -1 -1");
        speeds(ship, 16, 1, "1 1");
    }

    private static void speeds(SquareRig ship, int from, int strength, String due) {
        ship.wind(from, strength);
        StringBuilder all = new StringBuilder();
        for (int i = 0; i < due.split(" ").length; i++) {
            ship.sail(1);
            all.append(i == 0 ? "" : " ").append(ship.speed());
        }
        Check.same("speeds by " + strength + " from " + from, all.toString(), due);
    }

    /** "the sum of all forces, divided by 30 and the foulness, together, cut" */
    private static void speedIsCut() {
        // 3 * 10 is just 30, and 3 * 9 is not.
        SquareRig just = Voyage.rigged("002000000", 3, 0, 0);
        just.wind(10, 1);
        Check.same("30", just.force(2), 30);
        just.sail(5);
        Check.same("30 / 30", just.speed(), 1);
        just.wind(9, 1);
        Check.same("27", just.force(2), 27);
        just.sail(5);
        Check.same("27 / 30", just.speed(), 0);
        just.wind(0, 1);
        just.sail(5);
        Check.same("-36 / 30", just.speed(), -1);
        SquareRig spanker = Voyage.rigged("000001000", 0, 0, 0);
        spanker.wind(0, 1);
        Check.same("-24", spanker.force(5), -24);
        spanker.sail(5);
        Check.same("-24 / 30", spanker.speed(), 0);
        // "the sum of all": also of those below 0.
        SquareRig both = Voyage.rigged("002000200", 3, 0, -4);
        both.wind(10, 5);
        Check.same("150 and -100", both.force(2) + " " + both.force(6), "150 -100");
        both.sail(5);
        Check.same("50 / 30", both.speed(), 1);
    }

    /** "The foulness is 0 at first, and 1 more with each day." */
    private static void foulnessByTheDay() {
        SquareRig ship = Voyage.rigged("002000000", 3, 0, 0);
        ship.wind(10, 1);
        ship.sail(1399);
        Check.same("in the last minute but one", ship.minute() + " " + ship.speed(), "1439 1");
        ship.sail(1);
        Check.same("30 / 30 in the last one", ship.minute() + " " + ship.speed(), "1440 1");
        ship.sail(1);
        Check.same("30 / 31 in the first of the next day", ship.minute() + " " + ship.speed(), "1441 0");
        // The sail 3 reefed: 10 * 8 / 2 from astern, 40 / 40 in the day 10, and 40 / 41 in the day 11.
        SquareRig far = Voyage.rigged("000100000", 0, 0, 0);
        far.wind(16, 1);
        Voyage.sailFar(far, 1440 * 11 - 40);
        Check.same("in the day 10", far.minute() + " " + far.speed(), "15840 1");
        far.sail(1);
        Check.same("in the day 11", far.speed(), 0);
    }

    // ---- step 4

    /** "by the helm, -3 to 3, right above 0, times the speed, divided by 4, cut" */
    private static void helmIsCut() {
        // The sail 5 from astern: speeds of 1, 2, 3, 4 and 5 by strengths of 1 to 5; from ahead -1, -3, -4.
        turnsAfter(16, 1, 3, 0, 0);
        turnsAfter(16, 2, 1, 0, 0);
        turnsAfter(16, 3, 1, 0, 0);
        turnsAfter(16, 4, 1, 1, 1);
        turnsAfter(16, 3, 2, 1, 1);
        turnsAfter(16, 3, 3, 2, 1);
        turnsAfter(16, 5, 3, 3, 1);
        turnsAfter(16, 3, -1, 0, 0);
        turnsAfter(16, 4, -1, 1, 31);
        turnsAfter(16, 3, -2, 1, 31);
        turnsAfter(16, 5, -3, 3, 31);
        turnsAfter(16, 5, 0, 0, 0);
        // Astern the helm turns her the other way, and is cut towards 0 too.
        turnsAfter(0, 1, 3, 0, 0);
        turnsAfter(0, 2, 1, 0, 0);
        turnsAfter(0, 2, 2, 1, 31);
        turnsAfter(0, 2, -2, 1, 1);
        turnsAfter(0, 2, 3, 2, 31);
    }

    /** She gains so much swing a minute, and so turns just as it is 100; with none, never. */
    private static void turnsAfter(int from, int strength, int helm, int swing, int heading) {
        SquareRig ship = Voyage.rigged("000002000", 0, 0, 0);
        ship.wind(from, strength);
        ship.sail(9);
        ship.helm(helm);
        int minutes = swing == 0 ? 400 : (100 + swing - 1) / swing;
        ship.sail(minutes - 1);
        Check.same("helm " + helm + ", speed " + ship.speed() + ", before", ship.heading(), 0);
        ship.sail(1);
        Check.same("helm " + helm + ", speed " + ship.speed(), ship.heading(), heading);
    }

    /** "by the strains of the mast 2 less those of the mast 0, divided by 50, cut" */
    private static void strainsAreCut() {
        // The sail 6 full, 5 for each strength and push; the sail 1 full, 7 of them.
        swings("000000200", 3, 9, 1, 45, 0, 0);
        swings("000000200", 3, 10, 1, 50, 1, 1);
        swings("000000200", 3, 9, 2, 90, 1, 1);
        swings("000000200", 3, 10, 2, 100, 2, 1);
        swings("020000000", 2, 9, 1, -49, 0, 0);
        swings("100000000", 2, 10, 1, -32, 0, 0);
        swings("200000000", 2, 10, 1, -64, 1, 31);
        swings("010000000", 3, 10, 3, -105, 2, 31);
        swings("001000000", 1, 10, 11, -99, 1, 31);
        // "less those of the mast 0": 50 of the sail 6 less 30 of the sail 2, and 100 less 30.
        swings("002000200", 3, 10, 1, 20, 0, 0);
        swings("001000200", 3, 10, 2, 70, 1, 1);
        swings("002000100", 3, 10, 3, -15, 0, 0);
        // The jib belongs to the mast 0, and the spanker to the mast 2.
        swings("000000001", 0, 8, 3, 72, 1, 1);
        swings("000000020", 0, 8, 2, -64, 1, 31);
        swings("000000011", 0, 8, 12, 96, 1, 1);
        // The mast 1 does not count.
        swings("000222000", 3, 10, 4, 0, 0, 0);
    }

    private static void swings(String spreads, int braced, int off, int strength, int strains, int swing, int heading) {
        for (int side = -1; side <= 1; side += 2) {
            SquareRig ship = Voyage.rigged(spreads, side * braced, side * braced, side * braced);
            ship.wind((side * off + 32) % 32, strength);
            int mizzen = Math.abs(ship.force(6)) + Math.abs(ship.force(8));
            int fore = Math.abs(ship.force(0)) + Math.abs(ship.force(1)) + Math.abs(ship.force(2)) + Math.abs(ship.force(7));
            Check.same("the strains of " + spreads, mizzen - fore, strains);
            int minutes = swing == 0 ? 400 : (100 + swing - 1) / swing;
            ship.sail(minutes - 1);
            Check.same(spreads + " by " + strains + ", before", ship.heading(), 0);
            ship.sail(1);
            Check.same(spreads + " by " + strains + ", " + side, ship.heading(), (side * heading + 32) % 32);
        }
    }

    /** "and by": each of both is cut for itself. */
    private static void helmAndStrainsAreCutApart() {
        // A speed of 90 / 30 is 3: 9 / 4 is 2, and 90 / 50 is 1; the first minute has a speed of 2, and 1 and 1.
        SquareRig ship = Voyage.rigged("000000200", 0, 0, 3);
        ship.wind(9, 2);
        Check.same("5 * 2 * 9", ship.force(6), 90);
        ship.helm(3);
        ship.sail(33);
        Check.same("2 + 3 * 32 is 98", ship.heading() + " " + ship.speed(), "0 3");
        ship.sail(1);
        Check.same("and then 101", ship.heading(), 1);
        // Against each other: 2 to the right, and 1 to the left.
        SquareRig other = Voyage.rigged("000000200", 0, 0, -3);
        other.wind(32 - 9, 2);
        other.helm(3);
        other.sail(100);
        Check.same("0 + 99", other.heading(), 0);
        other.sail(1);
        Check.same("100", other.heading(), 1);
    }

    /** "if the wind is on the right, or less that, if it is on the left": with it on neither side, not at all. */
    private static void strainsByTheSide() {
        for (int from = 0; from <= 16; from += 16) {
            SquareRig ship = Voyage.rigged("000000200", 0, 0, 0);
            ship.wind(from, 6);
            ship.sail(300);
            Check.same("on neither side from " + from, ship.heading() + " " + (Math.abs(ship.force(6)) > 200), "0 true");
        }
        SquareRig right = Voyage.rigged("000000002", 0, 0, 0);
        right.wind(15, 9);
        right.sail(50);
        Check.same("15 points are on the right: 2 a minute", right.heading(), 1);
        SquareRig left = Voyage.rigged("000000002", 0, 0, 0);
        left.wind(17, 9);
        left.sail(50);
        Check.same("17 points are on the left: -2 a minute", left.heading(), 31);
    }

    /** "As long as it is 100 or more, the heading becomes 1 more, and it 100 less; likewise to the left." */
    private static void swingOfHundred() {
        for (int side = -1; side <= 1; side += 2) {
            // A speed of 4 by 128 / 30: helm 1 is 1 a minute, and 3 is 3.
            SquareRig ship = Voyage.rigged("000002000", 0, 0, 0);
            ship.wind(16, 4);
            ship.sail(9);
            ship.helm(side);
            ship.sail(99);
            Check.same("99", ship.heading(), 0);
            ship.sail(1);
            Check.same("100", ship.heading(), (side + 32) % 32);
            ship.wind((16 + side + 32) % 32, 4);
            ship.sail(99);
            Check.same("the 100 are gone: 99", ship.heading(), (side + 32) % 32);
            ship.helm(3 * side);
            ship.sail(1);
            Check.same("102", ship.heading(), (2 * side + 32) % 32);
            ship.wind((16 + 2 * side + 32) % 32, 4);
            ship.helm(side);
            ship.sail(97);
            Check.same("2 were left: 99", ship.heading(), (2 * side + 32) % 32);
            ship.sail(1);
            Check.same("100 again", ship.heading(), (3 * side + 32) % 32);
            ship.wind((16 + 3 * side + 32) % 32, 4);
            ship.helm(-side);
            ship.sail(99);
            Check.same("-99", ship.heading(), (3 * side + 32) % 32);
            ship.sail(1);
            Check.same("-100", ship.heading(), (2 * side + 32) % 32);
        }
    }

    /** "As long as ..": in one minute by two points, if the swing is 200 or more. */
    private static void swingOfTwoHundred() {
        for (int side = -1; side <= 1; side += 2) {
            // With the wind on the right by 10 points: 1840 on the mast 1, 1664 on the mast 0, 736 on the mast 2.
            SquareRig ship = Voyage.rigged("222222222", 3 * side, 3 * side, 3 * side);
            ship.wind((10 * side + 32) % 32, 8);
            // The strains swing her by -928 / 50 a minute, -18, which a helm of 1 holds later on.
            int swing = 0;
            int heading = 0;
            int most = 0;
            for (int i = 0; i < 90; i++) {
                int helm = i < 80 ? swing < 0 ? 1 : 0 : -3;
                ship.helm(helm * side);
                ship.sail(1);
                swing += helm * ship.speed() / 4 - 18;
                int points = 0;
                while (swing >= 100) {
                    swing -= 100;
                    points++;
                }
                while (swing <= -100) {
                    swing += 100;
                    points--;
                }
                heading += points;
                most = Math.max(most, Math.abs(points));
                Check.same("heading", ship.heading(), Math.floorMod(side * heading, 32));
                ship.wind(Math.floorMod(side * (heading + 10), 32), 8);
            }
            Check.same("two points at once", most, 2);
            Check.same("by this speed", ship.speed(), 141);
        }
    }

    /** The swing takes the speed that she has gathered in the same minute. */
    private static void turnBehindTheSpeed() {
        // Speeds of 2, 4, 6, .. 24 with a helm of 3: 1, 3, 4, 6, 7, 9, 10, 12, 13, 15, 16, 18 are 114 in all, and 96 without the last.
        SquareRig ship = Voyage.rigged("000200000", 0, 0, 0);
        ship.wind(16, 9);
        ship.helm(3);
        ship.sail(11);
        Check.same("96", ship.heading(), 0);
        ship.sail(1);
        Check.same("114", ship.heading(), 1);
    }

    // ---- step 5

    /** "The ship goes, all by the heading behind the turning" */
    private static void goesByTheHeadingBehind() {
        SquareRig ship = Voyage.rigged("000200000", 0, 0, 0);
        ship.wind(16, 9);
        ship.helm(3);
        ship.sail(11);
        Check.same("straight ahead", ship.east() + " " + ship.north(), "0 " + 100 * (2 + 4 + 6 + 8 + 10 + 12 + 14 + 16 + 18 + 20 + 22));
        long north = ship.north();
        ship.sail(1);
        Check.same("by the new heading at once", ship.east() + " " + (ship.north() - north), 24 * 20 + " " + 24 * 98);
    }

    /** "with the wind 10 points off the bow or fewer, by the sum of all strains, divided by 200, cut" */
    private static void driftIsCut() {
        drifts("000110000", 2, 9, 3, 199, 0);
        drifts("000200000", 3, 10, 2, 200, 1);
        drifts("000220000", 2, 9, 3, 399, 1);
        drifts("000200000", 3, 10, 4, 400, 2);
        // "of all": 80, 100 and 50.
        drifts("200200200", 3, 10, 1, 230, 1);
        // "10 points off the bow or fewer"
        drifts("000200000", 3, 10, 8, 800, 4);
        drifts("000200000", 3, 11, 8, 640, 0);
        drifts("000200000", 0, 12, 8, 480, 0);
        drifts("000200000", 0, 15, 8, 640, 0);
        drifts("000200000", 3, 1, 3, 360, 1);
        // "amount": of forces below 0 too.
        drifts("000200000", 4, 1, 5, 500, 2);
        SquareRig ahead = Voyage.rigged("000200000", 0, 4, 0);
        ahead.wind(0, 5);
        ahead.sail(1);
        Check.same("from ahead", ahead.east() + " " + ahead.north(), "0 " + (-2 * 100 - 600 / 200 * 100));
        SquareRig astern = Voyage.rigged("000200000", 0, 0, 0);
        astern.wind(16, 8);
        astern.sail(1);
        Check.same("from astern", astern.east() + " " + astern.north(), "0 200");
    }

    private static void drifts(String spreads, int braced, int off, int strength, int strain, int lee) {
        for (int side = -1; side <= 1; side += 2) {
            SquareRig ship = Voyage.rigged(spreads, side * braced, side * braced, side * braced);
            int from = (side * off + 32) % 32;
            ship.wind(from, strength);
            Check.same("strain of " + spreads + " by " + strength, Voyage.strain(ship), strain);
            ship.sail(1);
            Check.same("she heads north still", ship.heading(), 0);
            Check.same("drift to the east by " + strain, ship.east(), (long) lee * Voyage.eastPart(from + 16));
            Check.same("drift to the north by " + strain, ship.north() - 100L * ship.speed(), (long) lee * Voyage.northPart(from + 16));
        }
    }

    /** "all by the heading behind the turning": whether the wind is 10 points off the bow, and the strains. */
    private static void driftByTheHeadingBehind() {
        // 12 minutes bring her to a swing of 114 by a helm of 3, and the wind is set before the last.
        driftBehindATurn(3, 11, 10);
        driftBehindATurn(-3, 10, 11);
        driftBehindATurn(-3, 9, 10);
        driftBehindATurn(3, -10, -11);
        driftBehindATurn(3, 6, 5);
        driftBehindATurn(-3, -6, -5);
    }

    private static void driftBehindATurn(int helm, int before, int behind) {
        SquareRig ship = Voyage.rigged("000200000", 0, 0, 0);
        ship.wind(16, 9);
        ship.helm(helm);
        ship.sail(11);
        long east = ship.east();
        long north = ship.north();
        int from = (before + 32) % 32;
        ship.wind(from, 9);
        ship.sail(1);
        int heading = helm > 0 ? 1 : 31;
        Check.same("she turns", ship.heading() + " " + ship.off(), heading + " " + behind);
        int lee = Math.abs(behind) <= 10 ? Math.abs(ship.force(3)) / 200 : 0;
        Check.same("to the east", ship.east() - east, (long) ship.speed() * Voyage.eastPart(heading) + lee * Voyage.eastPart(from + 16));
        Check.same("to the north", ship.north() - north, (long) ship.speed() * Voyage.northPart(heading) + lee * Voyage.northPart(from + 16));
    }

    /** "and by the current", which the log does not see. */
    private static void currentBesides() {
        SquareRig ship = Voyage.rigged("000200000", 0, 0, 0);
        ship.wind(16, 9);
        ship.current(9999, -9999);
        ship.sail(12);
        Check.same("both", ship.east() + " " + ship.north(), 12 * 9999 + " " + (100 * (2 + 24) * 6 - 12 * 9999));
        ship.current(0, 0);
        ship.sail(8);
        Check.same("no more", ship.east() + " " + (ship.north() - 100 * 24 * 8), 12 * 9999 + " " + (100 * (2 + 24) * 6 - 12 * 9999));
        Check.same("not reckoned", ship.minute() + " " + ship.reckonedEast() + " " + ship.reckonedNorth(), "60 0 60000");
    }
}
