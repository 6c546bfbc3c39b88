/**
 * The boundary cases that the document's Terms name, a test for each sentence: the name tells which of the
 * three parts it stands in, the comment its words. Refusals are RefusalTest's.
 */
public final class BoundaryTermsTest extends Asking {

    /** A new object with FEASTS (none: "") and one PACK, number 0, in CELL 3, where so much is FORGED. */
    private static WolfCalendar one(String feasts, int kind, int lag, int forged) {
        WolfCalendar x = feasts.isEmpty() ? new WolfCalendar() : withFeasts(feasts);
        x.pack(kind, 3, lag);
        x.forge(3, forged);
        return x;
    }

    private static int fasts(String feasts, int kind, int lag, int forged) {
        return one(feasts, kind, lag, forged).about(0, 4);
    }

    private static int feastsIn(String text) {
        WolfCalendar x = new WolfCalendar();
        write(x, text);
        return x.feasts();
    }

    // ---- 1: DAYS

    /** "DAYS are numbered from 0" */
    private static void terms1daysAreNumberedFrom0() {
        WolfCalendar x = new WolfCalendar();
        due("the first DAY", x.count(4), 0);
        due("none ahead of it", x.dayOf(-1, 0), UNKNOWN);
        x.day();
        due("the next", x.count(4), 1);
    }

    /** "a YEAR has 30: DAY d is day d by 30 (its rest) of its YEAR" */
    private static void terms1aYearHas30() {
        WolfCalendar x = withFeasts("f00,f29");
        int[] last = {29, 59, 89, 9989};
        for (int day : last) {
            due("YEAR of " + day, x.dayOf(day, 3), day / 30);
            due("YEAR behind " + day, x.dayOf(day + 1, 3), day / 30 + 1);
            due("f29 on " + day, x.dayOf(day, 2), 1);
            due("f00 behind " + day, x.dayOf(day + 1, 2), 1);
            due("neither ahead of " + day, x.dayOf(day - 1, 2), 0);
            due("neither two behind " + day, x.dayOf(day + 2, 2), 0);
        }
    }

    /** "its WEEKDAY the rest of d by 7" */
    private static void terms1weekdayIsTheRestBy7() {
        WolfCalendar x = new WolfCalendar();
        for (int day = 0; day < 70; day += 7) {
            due("WEEKDAY of " + day, x.dayOf(day, 0), 0);
            due("WEEKDAY of " + (day + 6), x.dayOf(day + 6, 0), 6);
        }
        due("it goes on over the YEAR's end", x.dayOf(30, 0), 2);
    }

    /** "WEEKDAY 5 is FRIDAY" */
    private static void terms1weekday5IsFriday() {
        for (int forged = 0; forged < 30; forged++) {
            due("fasts on " + forged, fasts("", PACK, 0, forged), forged % 7 == 5 ? 1 : 0);
        }
    }

    /** "its NAME is the rest by 10 of its day of the YEAR" */
    private static void terms1nameIsTheRestBy10() {
        WolfCalendar x = new WolfCalendar();
        int[] nine = {9, 19, 29, 39, 59, 9999};
        for (int day : nine) due("NAME of " + day, x.dayOf(day, 1), 9);
        int[] zero = {0, 10, 20, 30, 60, 9990};
        for (int day : zero) due("NAME of " + day, x.dayOf(day, 1), 0);
    }

    // ---- 1: FEASTS

    /** "one to six" */
    private static void terms1oneToSixFeasts() {
        due("none", feastsIn(""), STATE);
        StringBuilder text = new StringBuilder("f00");
        for (int number = 1; number <= 6; number++) {
            due("FEASTS of " + text, feastsIn(text.toString()), number);
            text.append(",m11");
        }
        due("seven, of which THE PAGE takes no more than six and a comma", feastsIn(text.toString()), STATE);
    }

    /** "with "," between" */
    private static void terms1commaBetween() {
        String[] none = {",", ",f00", "f00,", "f00,,f01", "f00f01", "f00;f01", "f00 f01", "f00, f01", "f00,m11,", "f00m11"};
        for (String text : none) due("FEASTS of " + text, feastsIn(text), STATE);
        due("two", feastsIn("f00,m11"), 2);
    }

    /** ""f" and two digits (00 to 29: that day of each YEAR)" */
    private static void terms1stayingOnes00to29() {
        for (int number = 0; number <= 99; number++) {
            String text = "f" + number / 10 + number % 10;
            WolfCalendar x = new WolfCalendar();
            write(x, text);
            due("FEASTS of " + text, x.feasts(), number <= 29 ? 1 : STATE);
            for (int day = 0; day < 60; day++) due(text + " on " + day, x.dayOf(day, 2), day % 30 == number ? 1 : 0);
        }
        String[] none = {"f", "f0", "f000", "f/0", "f:0", "f0/", "f0:", "F00", "e00", "g00", "00"};
        for (String text : none) due("FEASTS of " + text, feastsIn(text), STATE);
    }

    /** ""m" and two digits (a WEEKDAY 0 to 6, and which one of them in the YEAR, 1 to 4)" */
    private static void terms1movingOnes0to6And1to4() {
        for (int number = 0; number <= 99; number++) {
            String text = "m" + number / 10 + number % 10;
            boolean right = number / 10 <= 6 && number % 10 >= 1 && number % 10 <= 4;
            due("FEASTS of " + text, feastsIn(text), right ? 1 : STATE);
        }
        String[] none = {"m", "m0", "m011", "m/1", "m:1", "m0/", "m0:", "M01", "l01", "n01"};
        for (String text : none) due("FEASTS of " + text, feastsIn(text), STATE);
    }

    /** "in the YEAR, from its first day on": the first day of a YEAR may be the first of them. */
    private static void terms1movingFromTheFirstDayOn() {
        WolfCalendar x = withFeasts("m01,m21");
        due("WEEKDAY 0 begins YEAR 0", x.dayOf(0, 2), 1);
        due("not a week later", x.dayOf(7, 2), 0);
        due("WEEKDAY 2 begins YEAR 1", x.dayOf(30, 2), 1);
        due("not a week later in YEAR 1", x.dayOf(37, 2), 0);
        due("WEEKDAY 0 of YEAR 1", x.dayOf(35, 2), 1);
        due("not on the last of YEAR 0", x.dayOf(28, 2), 0);
    }

    /** "1 to 4: it moves": by a walk through the YEARS, with the fifth of a WEEKDAY no FEAST. */
    private static void terms1movingOnesMove() {
        for (int weekday = 0; weekday <= 6; weekday++) {
            for (int which = 1; which <= 4; which++) {
                WolfCalendar x = withFeasts("m" + weekday + which);
                int met = 0;
                for (int day = 0; day < 450; day++) {
                    if (day % 30 == 0) met = 0;
                    if (day % 7 == weekday) met++;
                    boolean feast = day % 7 == weekday && met == which;
                    due("m" + weekday + which + " on " + day, x.dayOf(day, 2), feast ? 1 : 0);
                }
            }
        }
    }

    /** "At first there are none." */
    private static void terms1noFeastsAtFirst() {
        WolfCalendar x = new WolfCalendar();
        for (int day = 0; day < 420; day++) due("FEAST on " + day, x.dayOf(day, 2), 0);
        due("how many", x.count(0), 0);
    }

    // ---- 1: CELLS, PACKS, FLOCKS

    /** "CELLS are 0 to 7 in a row": those at its ends are not beside each other. */
    private static void terms1cellsInARow() {
        int[][] beside = {{0, 1}, {1, 0}, {6, 7}, {7, 6}, {0, 0}, {7, 7}};
        int[][] apart = {{0, 7}, {7, 0}, {0, 2}, {2, 0}, {7, 5}, {5, 7}, {3, 5}, {3, 1}};
        for (int[] cells : beside) due(cells[0] + " beside " + cells[1], preyFrom(cells[0], cells[1]), 0);
        for (int[] cells : apart) due(cells[0] + " apart from " + cells[1], preyFrom(cells[0], cells[1]), NONE);
    }

    private static int preyFrom(int packsCell, int flocksCell) {
        WolfCalendar x = new WolfCalendar();
        x.pack(STARVED, packsCell, 0);
        x.flock(5, flocksCell);
        return x.about(0, 5);
    }

    /** "PACKS (4 at most, numbered)" */
    private static void terms1packs4AtMost() {
        WolfCalendar x = new WolfCalendar();
        for (int n = 0; n < 4; n++) due("PACK", x.pack(PACK, n, 0), n);
        due("the fifth", x.pack(PACK, 4, 0), FULL);
        due("how many", x.count(1), 4);
        due("the last is there", x.about(3, 1), 3);
        due("no fifth is", x.about(4, 1), UNKNOWN);
    }

    /** "KINDS: 0 PACK .. 4 PILGRIM, each in a CELL, with a LAG (0 to 9)" */
    private static void terms1kindsAndLags() {
        int[] ends = {0, 9};
        for (int lag : ends) {
            for (int kind : KINDS) {
                WolfCalendar x = one("", kind, lag, 0);
                due("KIND", x.about(0, 0), kind);
                due("CELL", x.about(0, 1), 3);
                due("LAG", x.about(0, 2), lag);
            }
        }
    }

    /** "All are PACKS; a PILGRIM is HERETIC, too." */
    private static void terms1allArePacks() {
        for (int kind : KINDS) due(kind + " is a PACK", one("", kind, 0, 0).as(0, PACK), 0);
        due("a PILGRIM is HERETIC", one("", PILGRIM, 0, 0).as(0, HERETIC), 0);
        due("a HERETIC is no PILGRIM", one("", HERETIC, 0, 0).as(0, PILGRIM), NONE);
        for (int kind = 1; kind <= 4; kind++) due("a PACK is no " + kind, one("", PACK, 0, 0).as(0, kind), NONE);
    }

    /** "FLOCKS (5 at most, numbered) have a NAME (0 to 9), a CELL." */
    private static void terms1flocks5AtMost() {
        WolfCalendar x = new WolfCalendar();
        int[] names = {0, 9, 5, 5, 5};
        int[] cells = {7, 0, 3, 3, 3};
        for (int n = 0; n < 5; n++) due("FLOCK", x.flock(names[n], cells[n]), n);
        due("the sixth", x.flock(5, 3), FULL);
        for (int n = 0; n < 5; n++) due("NAME of " + n, x.flockOf(n, 0), names[n]);
        for (int n = 0; n < 5; n++) due("CELL of " + n, x.flockOf(n, 1), cells[n]);
        due("how many", x.count(2), 5);
    }

    /** "so many days ahead (0: it is right; 0 to 29)" */
    private static void terms1forged0to29() {
        WolfCalendar x = one("", PACK, 0, 29);
        due("29", x.about(0, 3), 239);
        due("no more", x.forge(3, 30), OUTSIDE);
        due("what it was", x.forge(3, 0), 29);
        due("0: it is right", x.about(0, 3), 210);
        due("what that was", x.forge(3, 0), 0);
    }

    // ---- 1: what a PACK READS, whether it FASTS

    /** "READS, on a DAY, that DAY and so many as is FORGED in its CELL, and 210" */
    private static void terms1readsByItsOwnCell() {
        WolfCalendar x = one("", PACK, 0, 0);
        due("DAY 0", x.about(0, 3), 210);
        x.forge(2, 29);
        x.forge(4, 29);
        due("not by the CELLS beside", x.about(0, 3), 210);
        days(x, 300);
        due("DAY 300", x.about(0, 3), 510);
    }

    /** "a HERETIC, a PILGRIM so many less as its LAG" */
    private static void terms1lessByTheLag() {
        for (int kind : KINDS) {
            boolean lags = kind == HERETIC || kind == PILGRIM;
            due("LAG 0 of " + kind, one("", kind, 0, 0).about(0, 3), 210);
            due("LAG 9 of " + kind, one("", kind, 9, 0).about(0, 3), lags ? 201 : 210);
            due("LAG 9 of " + kind + ", FORGED 29", one("", kind, 9, 29).about(0, 3), lags ? 230 : 239);
        }
    }

    /** "It FASTS, if what it READS is a FRIDAY (STARVED do not)": 215 is one, 214 and 216 are none. */
    private static void terms1fastsOnFridayButStarved() {
        for (int kind : KINDS) {
            due("on 214, " + kind, fasts("", kind, 0, 4), 0);
            due("on 215, " + kind, fasts("", kind, 0, 5), kind == STARVED ? 0 : 1);
            due("on 216, " + kind, fasts("", kind, 0, 6), 0);
        }
    }

    /** "or a FEAST (CUBS do not)": 218 is no FRIDAY. */
    private static void terms1fastsOnAFeastButCubs() {
        for (int kind : KINDS) {
            due("on f08, " + kind, fasts("f08", kind, 0, 8), kind == CUBS ? 0 : 1);
            due("on m12, the same day, " + kind, fasts("m12", kind, 0, 8), kind == CUBS ? 0 : 1);
            due("behind it, " + kind, fasts("f08", kind, 0, 9), 0);
        }
    }

    /** Both at once: a FRIDAY that is a FEAST is fasted on by all. */
    private static void terms1aFridayThatIsAFeast() {
        for (int kind : KINDS) due("kind " + kind, fasts("f05", kind, 0, 5), 1);
    }

    /** "a PILGRIM also, if the next day that it READS is a FEAST" */
    private static void terms1pilgrimOnTheEve() {
        for (int kind : KINDS) {
            due("the eve, " + kind, fasts("f08", kind, 0, 7), kind == PILGRIM ? 1 : 0);
            due("two ahead, " + kind, fasts("f08", kind, 0, 6), 0);
        }
        due("by its LAG", fasts("f08", PILGRIM, 8, 15), 1);
        due("not without it", fasts("f08", PILGRIM, 8, 7), 0);
    }

    /** The eve, where the day is the last of its YEAR: 239 READ, 240 begins YEAR 8 with WEEKDAY 2. */
    private static void terms1pilgrimOnTheEveOfAYear() {
        String[] feasts = {"f00", "m21"};
        for (String text : feasts) {
            due("PILGRIM by " + text, fasts(text, PILGRIM, 0, 29), 1);
            due("HERETIC by " + text, fasts(text, HERETIC, 0, 29), 0);
        }
        due("not by the fourth of the last YEAR", fasts("m24", PILGRIM, 0, 29), 0);
    }

    /** The eve of 420, where WEEKDAYS and YEARS begin anew (2 times 210): DAY 180, FORGED 29. */
    private static void terms1pilgrimOnTheEveOf420() {
        String[] feasts = {"f00", "m01"};
        for (String text : feasts) {
            WolfCalendar x = one(text, PILGRIM, 0, 29);
            x.pack(HERETIC, 3, 0);
            days(x, 180);
            due("READS", x.about(0, 3), 419);
            due("PILGRIM by " + text, x.about(0, 4), 1);
            due("HERETIC by " + text, x.about(1, 4), 0);
            x.day();
            due("HERETIC on the day, by " + text, x.about(1, 4), 1);
        }
    }

    // ---- 1: what it HUNTS

    private static WolfCalendar hunter(int... cells) {
        WolfCalendar x = one("", PACK, 0, 0);
        for (int cell : cells) x.flock(5, cell);
        return x;
    }

    /** "Else it HUNTS": who FASTS does not. */
    private static void terms1whoFastsHuntsNone() {
        WolfCalendar x = hunter(3);
        due("hunts", x.about(0, 5), 0);
        x.forge(3, 12);
        due("FRIDAY", x.about(0, 5), NONE);
        due("nothing is EATEN", x.day(), 0);
    }

    /** "of all FLOCKS (that are not EATEN)" */
    private static void terms1notWhatIsEaten() {
        WolfCalendar x = hunter(3);
        due("none is there", one("", PACK, 0, 0).about(0, 5), NONE);
        due("EATEN", x.day(), 1);
        due("not again", x.about(0, 5), NONE);
        due("not again on the next DAY", x.day(), 0);
    }

    /** "whose NAME is not that of the day that it READS": 219 READ, 9; the DAY's own NAME is 0. */
    private static void terms1spareThoseNamedAlike() {
        WolfCalendar x = one("", PACK, 0, 9);
        x.flock(9, 3);
        due("named as the day that it READS", x.about(0, 5), NONE);
        x.name(0, 0);
        due("named as the DAY", x.about(0, 5), 0);
        x.forge(3, 20);
        due("named as day 20", x.about(0, 5), NONE);
        x.name(0, 2);
        due("not by its first digit", x.about(0, 5), 0);
    }

    /** "those in its own CELL first, then those of the lesser one, then the least number" */
    private static void terms1theOrderOfHunting() {
        due("its own ahead of the lesser", hunter(2, 3).about(0, 5), 1);
        due("its own ahead of the greater", hunter(4, 3).about(0, 5), 1);
        due("the lesser ahead of the greater", hunter(4, 2).about(0, 5), 1);
        due("the greater, if it must", hunter(5, 4, 1).about(0, 5), 1);
        due("the least number of its own", hunter(3, 3, 3).about(0, 5), 0);
        due("the least number of the lesser", hunter(4, 2, 2).about(0, 5), 1);
        due("the least number of the greater", hunter(7, 4, 4).about(0, 5), 1);
        WolfCalendar x = hunter(3, 4);
        x.name(0, 0);
        due("the next, if one is spared", x.about(0, 5), 1);
    }

    /** "one PACK after the other, by number, HUNTS or FASTS; what it HUNTS is EATEN" */
    private static void terms1onePackAfterTheOther() {
        WolfCalendar x = new WolfCalendar();
        for (int cell = 4; cell >= 1; cell--) x.pack(STARVED, cell, 0);
        x.flock(5, 3);
        due("PACK 1 would HUNT it in its own CELL", x.about(1, 5), 0);
        due("EATEN", x.day(), 1);
        due("but PACK 0 was first", x.flockOf(0, 3), 0);
        due("the others got nothing", x.about(1, 6) + x.about(2, 6) + x.about(3, 6), 0);
    }

    /** As many as there are PACKS are EATEN on one DAY; the last FLOCK is left. */
    private static void terms1fourAreEatenOnADay() {
        WolfCalendar x = new WolfCalendar();
        for (int n = 0; n < 4; n++) x.pack(STARVED, 3, 0);
        for (int n = 0; n < 5; n++) x.flock(5, 3);
        due("four", x.day(), 15);
        for (int n = 0; n < 4; n++) due("by whom", x.flockOf(n, 3), n);
        due("the last", x.day(), 16);
        due("by the first", x.flockOf(4, 3), 0);
        due("none is left", x.day(), 0);
    }

    /** "then it is the next DAY" */
    private static void terms1thenTheNextDay() {
        WolfCalendar x = new WolfCalendar();
        due("nobody is there", x.day(), 0);
        due("DAY 1", x.count(4), 1);
        days(x, 209);
        due("DAY 210", x.count(4), 210);
    }

    // ---- 2: what would be

    /** Five FLOCKS named 9 around a STARVED PACK: one is EATEN on each of five DAYS (named 0 to 4). */
    private static WolfCalendar five() {
        WolfCalendar x = one("", STARVED, 0, 0);
        for (int n = 0; n < 5; n++) x.flock(9, 2 + n % 3);
        return x;
    }

    /** "LOSS: how many FLOCKS would be EATEN in so many DAYS (0 to 60)" */
    private static void terms2lossIn0to60Days() {
        WolfCalendar x = five();
        for (int n = 0; n <= 60; n++) due("in " + n, x.loss(n), Math.min(n, 5));
        due("one less than none", x.loss(-1), OUTSIDE);
        due("one more", x.loss(61), OUTSIDE);
    }

    /** LOSS where nothing can be lost: no FLOCKS, no PACKS, all EATEN. */
    private static void terms2lossOfNothing() {
        due("nobody", new WolfCalendar().loss(60), 0);
        due("no FLOCKS", one("", STARVED, 0, 0).loss(60), 0);
        WolfCalendar x = new WolfCalendar();
        x.flock(9, 3);
        due("no PACKS", x.loss(60), 0);
        WolfCalendar y = five();
        days(y, 5);
        due("all EATEN", y.loss(60), 0);
    }

    /** "FALLS: behind how many DAYS first a FLOCK would be EATEN (1: on this one ..); none" */
    private static void terms2falls1OnThisOne() {
        WolfCalendar x = five();
        // Two in its own CELL, two in the lesser one, one in the greater.
        int[] order = {1, 4, 0, 3, 2};
        for (int n = 0; n < 5; n++) due("FLOCK " + order[n], x.falls(order[n]), n + 1);
        due("on this one", x.day(), 1 << 1);
        due("one sooner", x.falls(4), 1);
        x.move(4, 7);
        due("none", x.falls(4), NONE);
    }

    /**
     * "60 at most": no FLOCK can fall so late (each YEAR has DAYS enough on which any PACK HUNTS), so the
     * latest that was found stands here: 22 DAYS, of which eat 2, 3, 19, 20 and 22.
     */
    private static void terms2fallsLate() {
        WolfCalendar x = withFeasts("f07,f09,f11,f14,f16,f18");
        x.pack(PILGRIM, 4, 3);
        x.forge(4, 5);
        int[] cells = {5, 5, 4, 5, 5};
        for (int cell : cells) x.flock(2, cell);
        int[] falls = {3, 19, 2, 20, 22};
        for (int n = 0; n < 5; n++) due("FLOCK " + n, x.falls(n), falls[n]);
        due("ahead of it", x.loss(21), 4);
        due("with it", x.loss(22), 5);
        due("safe by its own name until then", x.safe(4, 21), 2);
        due("and no longer", x.safe(4, 22), NONE);
    }

    /** "SAFE: the least NAME by which a FLOCK would not be EATEN": 0 and 9 are NAMES, too. */
    private static void terms2safeNames0to9() {
        for (int forged = 0; forged < 10; forged++) {
            WolfCalendar x = one("", STARVED, 0, forged);
            x.flock(5, 3);
            due("only " + forged, x.safe(0, 1), forged);
            due("none for two DAYS", x.safe(0, 2), NONE);
        }
        WolfCalendar y = one("", PACK, 0, 5);
        y.flock(5, 3);
        due("all on a FRIDAY: the least", y.safe(0, 1), 0);
    }

    /** "in so many DAYS (1 to 30)" */
    private static void terms2safeIn1to30Days() {
        WolfCalendar x = new WolfCalendar();
        x.flock(5, 3);
        for (int n = 1; n <= 30; n++) due("in " + n, x.safe(0, n), 0);
        due("in none", x.safe(0, 0), OUTSIDE);
        due("in 31", x.safe(0, 31), OUTSIDE);
        x.pack(STARVED, 3, 0);
        due("a PACK is there, 30", x.safe(0, 30), NONE);
    }

    /** "all else as it is": the other FLOCK keeps its NAME and is EATEN first. */
    private static void terms2safeAllElseAsItIs() {
        WolfCalendar x = one("", STARVED, 0, 0);
        x.flock(5, 3);
        x.flock(7, 3);
        due("the other is EATEN", x.safe(1, 1), 0);
        due("then its name day must be", x.safe(1, 2), 1);
        due("its NAME stays", x.flockOf(1, 0), 7);
        due("the other's, too", x.flockOf(0, 0), 5);
        due("nothing is EATEN", x.count(3), 0);
    }

    // ---- 2: GRAZING

    /** "GRAZING for a FLOCK for so many DAYS (1 to 6)": rows of CELLS from the row's end and its middle. */
    private static void terms2grazing1to6Days() {
        int[] fromEnd = {2, 5, 13, 35, 96, 267};
        int[] fromMiddle = {3, 9, 27, 80, 235, 686};
        WolfCalendar x = new WolfCalendar();
        x.flock(5, 0);
        x.flock(5, 7);
        x.flock(5, 3);
        for (int n = 1; n <= 6; n++) {
            due("from 0", x.graze(0, n, 1), fromEnd[n - 1]);
            due("from 7", x.graze(1, n, 1), fromEnd[n - 1]);
            due("from 3", x.graze(2, n, 1), fromMiddle[n - 1]);
        }
        due("no DAYS", x.graze(0, 0, 1), OUTSIDE);
        due("seven", x.graze(0, 7, 1), OUTSIDE);
    }

    /** "the first: its own, or beside that": no CELL two away, none beyond the row. */
    private static void terms2grazingFirstBeside() {
        WolfCalendar x = new WolfCalendar();
        for (int cell = 0; cell <= 7; cell++) {
            x.flock(5, 0);
            x.move(0, cell);
            due("from " + cell, x.graze(0, 1, 0), Math.max(cell - 1, 0));
        }
        WolfCalendar y = one("", STARVED, 0, 0);
        y.flock(5, 3);
        due("2, 3 and 4 are hunted", y.graze(0, 1, 0), NONE);
        due("1 and 5 are too far", y.graze(0, 1, 1), 0);
    }

    /** "the first by numbers": the least first CELL from which it goes on well. */
    private static void terms2grazingTheFirstByNumbers() {
        WolfCalendar x = new WolfCalendar();
        x.pack(STARVED, 1, 0);
        int[][] rows = {{1, NONE, 0}, {2, 3, 1}, {3, 3, 2}, {4, 3, 3}, {5, 4, 3}};
        x.flock(5, 0);
        for (int[] row : rows) {
            x.move(0, row[0]);
            due("from " + row[0], x.graze(0, 1, 0), row[1]);
            due("rows from " + row[0], x.graze(0, 1, 1), row[2]);
        }
    }

    /** It must not be EATEN on any DAY of the row, its last one with them. */
    private static void terms2grazingOnTheLastDay() {
        WolfCalendar x = one("", PACK, 0, 4);
        x.flock(6, 1);
        // 214 READ: 2, 3 and 4 are hunted; 215 is a FRIDAY; 216 is its name day; 217: hunted again.
        due("one DAY", x.graze(0, 1, 1), 2);
        due("first CELL", x.graze(0, 1, 0), 0);
        due("two: 0 0, 0 1, 1 0, 1 1, 1 2", x.graze(0, 2, 1), 5);
        due("three: 2, 3, 2, 3 and 3 of them", x.graze(0, 3, 1), 13);
        // Of the 13 end 4 in 0, 5 in 1, 3 in 2, 1 in 3: 2, 2, 1, 0 ways on.
        due("four", x.graze(0, 4, 1), 4 * 2 + 5 * 2 + 3);
    }

    /** "(other FLOCKS stay, and are EATEN)" */
    private static void terms2grazingOthersStayAndAreEaten() {
        WolfCalendar x = one("", STARVED, 0, 0);
        x.flock(5, 3);
        x.flock(5, 3);
        due("another is taken", x.graze(1, 1, 1), 3);
        due("but on one DAY only: 2 1, 4 5", x.graze(1, 2, 1), 2);
        due("and then no more", x.graze(1, 2, 0), 2);
        due("where it stays", x.flockOf(0, 1), 3);
        due("nothing is EATEN", x.count(3), 0);
        due("nothing goes on", x.count(4), 0);
    }

    /** A row that brings it nowhere: none, and 0 rows. */
    private static void terms2grazingNone() {
        WolfCalendar x = new WolfCalendar();
        x.pack(STARVED, 0, 0);
        x.flock(5, 0);
        due("NONE", x.graze(0, 6, 0), NONE);
        due("no rows", x.graze(0, 6, 1), 0);
    }

    // ---- 2: NAIL

    private static void nails(String feasts, int kind, int lag, int number, int days) {
        WolfCalendar x = one(feasts, kind, lag, 17);
        due("number for " + kind + " by " + feasts, x.nail(0, 0), number);
        due("DAYS for " + kind + " by " + feasts, x.nail(0, 1), days);
        due("what is FORGED stays", x.forge(3, 17), 17);
    }

    /** "of all numbers FORGED (0 to 29)": both ends are found, nothing beyond them counts. */
    private static void terms2nailNumbers0to29() {
        nails("f00", STARVED, 0, 0, 1);
        nails("f29", STARVED, 0, 29, 1);
        // 209, which no number brings, would begin as many DAYS.
        nails("f29,f00", STARVED, 0, 29, 2);
        // 240 and 241 hang together (YEAR 8), 210 and 213 do not: 30 is no number.
        nails("f00,m31", STARVED, 0, 0, 1);
    }

    /** "by which it would FAST on this DAY": f03 to f05 begin on a later one by the numbers ahead of 3. */
    private static void terms2nailFastsOnThisDay() {
        nails("f03,f04,f05", STARVED, 0, 3, 3);
        nails("f03,f04,f05", HERETIC, 4, 7, 3);
    }

    /** "that by which it FASTS most DAYS one behind the other, from this one on" */
    private static void terms2nailMostDaysFromThisOneOn() {
        nails("f02,f10,f11,f20", STARVED, 0, 10, 2);
        // A gap ends it: 8 is a FEAST, 9 none, 10 and 11 are.
        nails("f08,f10,f11", STARVED, 0, 10, 2);
        nails("f08,f10,f11,f20,f21,f22", STARVED, 0, 20, 3);
    }

    /**
     * "30 at most are counted": no PACK can FAST so long; the most are 15 DAYS, three FRIDAYS and six
     * FEASTS with their eves.
     */
    private static void terms2nailTheMost() {
        nails("f07,f09,f11,f14,f16,f18", PILGRIM, 3, 8, 15);
        nails("f07,f09,f11,f14,f16,f18", PILGRIM, 0, 5, 15);
    }

    /** "of like ones the least" */
    private static void terms2nailOfLikeOnesTheLeast() {
        nails("f04,f14,f24", STARVED, 0, 4, 1);
        nails("", PACK, 0, 5, 1);
        nails("", CUBS, 9, 5, 1);
        nails("", HERETIC, 9, 0, 1);
        nails("f20,f21,f10,f11", STARVED, 0, 10, 2);
    }

    /** None: STARVED without FEASTS; or between two of m01, 210 and 245, where 30 numbers reach neither. */
    private static void terms2nailNone() {
        nails("", STARVED, 0, NONE, NONE);
        WolfCalendar x = one("m01", STARVED, 0, 0);
        due("210", x.nail(0, 0), 0);
        for (int day = 1; day <= 5; day++) {
            x.day();
            due("DAY " + day, x.nail(0, 0), NONE);
            due("DAYS on DAY " + day, x.nail(0, 1), NONE);
        }
        x.day();
        due("29 brings 245", x.nail(0, 0), 29);
        due("one DAY", x.nail(0, 1), 1);
    }

    // ---- 2: SEEN, LAGS, KINDS

    /** "SEEN .. (8 at most)": the eighth counts as well; 215 and 222 READ are FRIDAYS. */
    private static void terms2seen8AtMost() {
        WolfCalendar x = one("", PACK, 0, 5);
        x.watch(0);
        due("the first", x.seen(false), 1);
        for (int n = 2; n <= 7; n++) due("hunted", x.seen(true), n);
        due("seven: all but STARVED", x.fits(1), 1 | 2 | 8 | 16);
        due("the eighth", x.seen(true), 8);
        due("no more fits", x.fits(1), 0);
        due("FULL", x.seen(false), FULL);
        x.watch(0);
        x.seen(false);
        for (int n = 2; n <= 7; n++) x.seen(true);
        x.seen(false);
        due("the eighth a FRIDAY", x.fits(1), 1 | 2 | 8 | 16);
    }

    /** "on DAYS one behind the other from this one on": from the DAY on which it begins, not from later ones. */
    private static void terms2seenFromThisOneOn() {
        WolfCalendar x = one("", PACK, 0, 0);
        days(x, 4);
        x.watch(0);
        days(x, 3);
        x.seen(true);
        x.seen(false);
        due("214 and 215", x.fits(1), 1 | 2 | 8 | 16);
    }

    /** "whether it HUNTED (or would have, had there been a FLOCK)" */
    private static void terms2seenWithoutAFlock() {
        WolfCalendar x = one("", PACK, 0, 0);
        x.watch(0);
        x.seen(true);
        due("no FLOCK is there", x.fits(1), 31);
        x.flock(0, 3);
        due("nor one that it may not HUNT", x.fits(1), 31);
        x.flock(5, 3);
        due("with one", x.fits(1), 31);
    }

    /** "LAGS: by which LAGS (bits 0 to 9)": 201 READ by LAG 9 and 208 by 2 are FRIDAYS; 215 by 0, 208 by 7. */
    private static void terms2lagsBits0to9() {
        WolfCalendar x = one("", STARVED, 5, 0);
        x.watch(0);
        due("all", x.fits(0), 1023);
        x.seen(false);
        due("9 and 2", x.fits(0), 1 << 9 | 1 << 2);
        x.forge(3, 5);
        due("0 and 7", x.fits(0), 1 | 1 << 7);
        x.watch(0);
        x.seen(true);
        due("all but these", x.fits(0), 1023 - (1 | 1 << 7));
    }

    /** "KINDS: by which KINDS (bits 0 to 4), each with the LAG that the PACK has" */
    private static void terms2kindsBits0to4() {
        WolfCalendar x = one("f09", PACK, 3, 0);
        x.watch(0);
        due("all", x.fits(1), 31);
        x.seen(false);
        due("none FASTS on 210, nor on 207", x.fits(1), 0);
        x.forge(3, 11);
        due("by LAG 3, on 218: the PILGRIM alone, on the eve", x.fits(1), 16);
        x.forge(3, 12);
        due("by LAG 3, on 219, without it on 222 (a FRIDAY)", x.fits(1), 1 | 2 | 8 | 16);
        x.forge(3, 9);
        due("without LAG, on 219: PACK and STARVED", x.fits(1), 1 | 4);
    }

    // ---- 3: YEARS and DRAWS

    /** A SEED from which the first DRAWS of 8, 8 and 30 are these. */
    private static int seedOf(int first, int cell, int number) {
        for (int seed = 0; seed < 1000000; seed++) {
            if (drawBehind(seed, 1, 8) == first && drawBehind(seed, 2, 8) == cell && drawBehind(seed, 3, 30) == number) return seed;
        }
        throw new IllegalStateException("no such seed");
    }

    private static void years(String told, int first, int cell, int number, int its, int forged, int name, int want) {
        WolfCalendar x = new WolfCalendar();
        x.pack(STARVED, its, 0);
        x.forge(its, forged);
        x.flock(name, its);
        int seed = seedOf(first, cell, number);
        due(told, x.years(1, seed, 0), want);
        due(told + ", the SEED", x.years(1, seed, 1), seedBehind(seed, first == 0 ? 3 : 1));
        due(told + ", what is FORGED stays", x.forge(its, 0), forged);
    }

    /** "ahead of each a DRAW of 8: 0": by 1 and 7 nothing is FORGED, and but one DRAW is done. */
    private static void terms3yearsADrawOf0() {
        years("by 0 the NAME 9 is spared", 0, 3, 9, 3, 0, 9, 0);
        years("by 1 it is not", 1, 3, 9, 3, 0, 9, 1);
        years("by 7 it is not", 7, 3, 9, 3, 0, 9, 1);
        years("by 7 the NAME 0 is", 7, 3, 9, 3, 0, 0, 0);
    }

    /** "what is FORGED in the CELL by the next DRAW, of 8": 0 and 7, and no other CELL. */
    private static void terms3yearsCells0to7() {
        for (int cell = 0; cell <= 7; cell++) {
            years("its own CELL", 0, cell, 4, cell, 0, 4, 0);
            years("another CELL", 0, (cell + 1) % 8, 4, cell, 0, 4, 1);
        }
    }

    /** "becomes as much as the DRAW behind it, of 30, tells": 0 and 29, in place of what was. */
    private static void terms3yearsNumbers0to29() {
        years("29", 0, 3, 29, 3, 0, 9, 0);
        years("29, not 0", 0, 3, 29, 3, 0, 0, 1);
        years("0", 0, 3, 0, 3, 4, 0, 0);
        years("0, not 4", 0, 3, 0, 3, 4, 4, 1);
        years("7, not 11", 0, 3, 7, 3, 4, 7, 0);
        years("7, not 4", 0, 3, 7, 3, 4, 4, 1);
    }

    /** "so many DAYS": 1 and 60; the SEED goes on from DAY to DAY. */
    private static void terms3years1to60Days() {
        WolfCalendar x = new WolfCalendar();
        int[] seeds = {0, 1, 2, 77, 12345, MOST - 1, MOST};
        for (int seed : seeds) {
            long due = seed;
            for (int n = 1; n <= 60; n++) {
                due = seedBehind(due, drawBehind(due, 1, 8) == 0 ? 3 : 1);
                due(n + " DAYS from " + seed, x.years(n, seed, 1), due);
            }
        }
    }

    /** "1103515245 times it and 12345, its rest by 2 to the 31": by hand, from the least SEED and the greatest. */
    private static void terms3drawsWrap() {
        WolfCalendar x = new WolfCalendar();
        // 12345 by 65536 is 0, so two DRAWS more.
        due("from 0", x.years(1, 0, 1), 654583775);
        // 2 to the 31, less 1103515245, and 12345; by 65536 it is 15929, by 8 1.
        due("from the greatest", x.years(1, MOST, 1), 2147483648L - 1103515245 + 12345);
        due("15929", (2147483648L - 1103515245 + 12345) / 65536, 15929);
        due("by 8", 15929 % 8, 1);
    }

    /** "then that by 65536 (rounded down), its rest": the SEEDS on both sides of where the rest changes. */
    private static void terms3drawsAreRoundedDown() {
        WolfCalendar x = new WolfCalendar();
        int asked = 0;
        for (int seed = 0; seed < 2000000 && asked < 40; seed++) {
            long next = seedBehind(seed, 1);
            boolean changes = (next + 40 >> 16) % 8 != (next >> 16) % 8 || (next - 40 >> 16) % 8 != (next >> 16) % 8;
            boolean zero = (next + 40 >> 16) % 8 == 0 || (next - 40 >> 16) % 8 == 0;
            if (!changes || !zero) continue;
            asked++;
            due("from " + seed, x.years(1, seed, 1), seedBehind(seed, (next >> 16) % 8 == 0 ? 3 : 1));
        }
        due("found", asked, 40);
    }

    // ---- 3: IMAGE

    /** "(those that come since are gone by restore())": there is room for others. */
    private static void terms3imageRoomAgain() {
        WolfCalendar x = new WolfCalendar();
        x.image();
        for (int round = 0; round < 3; round++) {
            for (int n = 0; n < 4; n++) due("PACK", x.pack(round, n, n), n);
            for (int n = 0; n < 5; n++) due("FLOCK", x.flock(5 + round, n), n);
            due("PACKS are FULL", x.pack(PACK, 0, 0), FULL);
            due("FLOCKS are FULL", x.flock(5, 0), FULL);
            due("the KIND is the new one's", x.about(3, 0), round);
            due("the NAME is the new one's", x.flockOf(4, 0), 5 + round);
            due("none of the new is EATEN", x.count(3), 0);
            due("some are EATEN", x.day() != 0);
            due("DAY", x.restore(), 0);
            due("no PACKS", x.count(1), 0);
            due("no FLOCKS", x.count(2), 0);
            due("none EATEN", x.count(3), 0);
            due("PACK 0 is gone", x.about(0, 0), UNKNOWN);
            due("FLOCK 0 is gone", x.flockOf(0, 0), UNKNOWN);
        }
    }

    /** A new one has the number of one that is gone, but nothing else of it. */
    private static void terms3imageNothingOfTheGone() {
        WolfCalendar x = one("", STARVED, 0, 0);
        x.image();
        x.flock(5, 3);
        x.day();
        due("EATEN", x.flockOf(0, 2), 1);
        x.restore();
        due("the new one", x.flock(6, 3), 0);
        due("lives", x.flockOf(0, 2), 0);
        due("by nobody", x.flockOf(0, 3), NONE);
        due("the PACK ate none", x.about(0, 6), 0);
    }

    /** "where FLOCKS are, their NAMES, which are EATEN, by whom" */
    private static void terms3imageOfFlocks() {
        WolfCalendar x = one("", STARVED, 0, 0);
        x.pack(STARVED, 6, 0);
        x.flock(5, 3);
        x.flock(8, 3);
        x.day();
        x.image();
        x.name(1, 0);
        x.move(1, 6);
        x.day();
        due("EATEN by PACK 1", x.flockOf(1, 3), 1);
        due("restore", x.restore(), 1);
        due("NAME", x.flockOf(1, 0), 8);
        due("CELL", x.flockOf(1, 1), 3);
        due("lives", x.flockOf(1, 2), 0);
        due("EATEN by nobody", x.flockOf(1, 3), NONE);
        due("the first is EATEN still", x.flockOf(0, 2), 1);
        due("by PACK 0", x.flockOf(0, 3), 0);
        due("one by PACK 0", x.about(0, 6), 1);
        due("none by PACK 1", x.about(1, 6), 0);
        due("then by PACK 0", x.day(), 2);
        due("two by PACK 0", x.about(0, 6), 2);
    }

    /** "what is FORGED": in the first CELL and the last, from nothing and to nothing. */
    private static void terms3imageOfForged() {
        WolfCalendar x = new WolfCalendar();
        x.forge(0, 29);
        x.forge(7, 1);
        x.image();
        for (int cell = 0; cell < 8; cell++) x.forge(cell, 8 - cell);
        x.forge(7, 0);
        x.restore();
        int[] due = {29, 0, 0, 0, 0, 0, 0, 1};
        for (int cell = 0; cell < 8; cell++) due("CELL " + cell, x.forge(cell, 0), due[cell]);
    }

    /** "SEEN": whose, from when, how much; and that it had not begun. */
    private static void terms3imageOfSeen() {
        WolfCalendar x = one("", PACK, 0, 0);
        x.pack(STARVED, 4, 0);
        x.image();
        x.watch(0);
        x.seen(true);
        x.restore();
        due("it has not begun", x.seen(true), STATE);
        due("nor fits it", x.fits(0), STATE);
        days(x, 4);
        x.watch(0);
        x.seen(true);
        x.seen(false);
        due("214, 215", x.fits(1), 1 | 2 | 8 | 16);
        x.image();
        x.forge(4, 1);
        x.day();
        x.watch(1);
        for (int n = 0; n < 8; n++) x.seen(true);
        due("FULL", x.seen(true), FULL);
        x.restore();
        due("how much", x.count(6), 2);
        due("whose, from when", x.fits(1), 1 | 2 | 8 | 16);
        due("there is room", x.seen(true), 3);
        due("216", x.fits(1), 1 | 2 | 8 | 16);
    }

    /** "An IMAGE keeps the DAY": 0, and a later one. */
    private static void terms3imageOfTheDay() {
        WolfCalendar x = new WolfCalendar();
        due("DAY 0", x.image(), 0);
        days(x, 3);
        due("back to 0", x.restore(), 0);
        due("it is", x.count(4), 0);
        days(x, 3);
        due("DAY 3", x.image(), 3);
        due("at once", x.restore(), 3);
        days(x, 2);
        due("back to 3", x.restore(), 3);
        due("it is 3", x.count(4), 3);
    }

    // ---- 3: refusals

    /** "UNKNOWN (.. of FLOCKS also what is EATEN, but in flockOf())" */
    private static void terms3unknownIsWhatIsEaten() {
        WolfCalendar x = one("", STARVED, 0, 0);
        x.flock(5, 3);
        x.day();
        due("name", x.name(0, 5), UNKNOWN);
        due("move", x.move(0, 3), UNKNOWN);
        due("falls", x.falls(0), UNKNOWN);
        due("safe", x.safe(0, 1), UNKNOWN);
        due("graze", x.graze(0, 1, 0), UNKNOWN);
        int[] told = {5, 3, 1, 0};
        for (int what = 0; what < 4; what++) due("flockOf " + what, x.flockOf(0, what), told[what]);
    }

    public static void main(String[] args) {
        runAll(BoundaryTermsTest.class);
        close();
    }
}
