/**
 * The boundary cases that the promises 1 to 28 name, a test for each sentence: the name tells the promise, the
 * comment its words. What the Terms name is BoundaryTermsTest's, refusals are RefusalTest's.
 */
public final class BoundaryPromisesTest extends Asking {

    /** "An object is used for at most 512 calls": the 512th is answered. */
    private static void head1the512thCall() {
        WolfCalendar x = withFeasts("f07");
        x.pack(PACK, 0, 0);
        days(x, 507 - 1);
        due("the 512th: READ", x.about(0, 3), 210 + 506);
        WolfCalendar y = new WolfCalendar();
        days(y, 511);
        due("the 512th: the DAY", y.count(4), 511);
    }

    /** "No FEASTS, nobody, DAY 0." */
    private static void promise01nothingAtFirst() {
        WolfCalendar x = new WolfCalendar();
        for (int what = 0; what <= 9; what++) due("count " + what, x.count(what), 0);
        due("PACK", x.about(0, 0), UNKNOWN);
        due("FLOCK", x.flockOf(0, 0), UNKNOWN);
        due("letters", x.blank(), 0);
        for (int cell = 0; cell < 8; cell++) due("FORGED", x.forge(cell, 0), 0);
        due("SEEN", x.seen(true), STATE);
        due("an IMAGE", x.restore(), STATE);
        due("the first PACK", x.pack(PACK, 0, 0), 0);
        due("the first FLOCK", x.flock(0, 0), 0);
    }

    /** A new object is new, whatever was done with another one. */
    private static void promise01nothingOfAnother() {
        WolfCalendar other = withFeasts(SIX);
        write(other, "f00");
        other.forge(3, 3);
        other.pack(STARVED, 3, 0);
        other.flock(5, 3);
        other.watch(0);
        other.seen(true);
        other.graze(0, 1, 0);
        other.day();
        other.image();
        promise01nothingAtFirst();
    }

    // ---- 2 to 5: THE PAGE

    /** "code (32 to 126)", by int, not by what is left of it in a letter. */
    private static void promise02codes32to126() {
        for (int code = 32; code <= 126; code++) due("letter " + code, new WolfCalendar().letter(code), 1);
        int[] outside = {LEAST, -1, 0, 9, 10, 31, 127, 128, 255, 256 + 102, 65536 + 102, 65536 + 32, -65536 + 102, MOST};
        for (int code : outside) due("letter " + code, new WolfCalendar().letter(code), OUTSIDE);
    }

    /** "FULL: above 24" */
    private static void promise02fullAbove24() {
        WolfCalendar x = new WolfCalendar();
        for (int n = 1; n <= 24; n++) due("letter", x.letter(n == 24 ? '!' : '~'), n);
        due("the 25th", x.letter('f'), FULL);
        due("letters", x.count(7), 24);
        due("THE PAGE has the 24 alone", x.digest(), digestOf(x, "~~~~~~~~~~~~~~~~~~~~~~~!"));
        due("blank", x.blank(), 24);
        due("there is room", x.letter('f'), 1);
        write(x, "00,f01,f02,f03,f04,f05,");
        due("full once more", x.letter('f'), FULL);
    }

    /** "THE PAGE is empty": full, with one letter, and empty before. */
    private static void promise03emptyAndFull() {
        WolfCalendar x = new WolfCalendar();
        due("empty", x.blank(), 0);
        x.letter('m');
        due("one", x.blank(), 1);
        due("empty again", x.blank(), 0);
        write(x, SIX + ",");
        due("full", x.blank(), 24);
        due("letters", x.count(7), 0);
        due("no letter is left", x.feasts(), STATE);
    }

    private static void mayFollow(String ahead, String letters) {
        for (int code = 32; code <= 126; code++) {
            WolfCalendar x = new WolfCalendar();
            write(x, ahead);
            x.letter(code);
            boolean may = letters.indexOf(code) >= 0;
            due("fault of " + ahead + (char) code, x.fault(), may ? ahead.length() + 1 : ahead.length());
            due("letters of " + ahead + (char) code, x.count(7), ahead.length() + 1);
        }
    }

    /** "The place (from 0) of the first letter of THE PAGE that no FEASTS have there, behind those ahead of it" */
    private static void promise04everyLetterBehindOneFeast() {
        String[] ahead = {"", "f00,", "f00,m11,f29,m64,f00,"};
        for (String text : ahead) {
            mayFollow(text, "fm");
            mayFollow(text + "f", "012");
            for (char first = '0'; first <= '2'; first++) mayFollow(text + "f" + first, "0123456789");
            mayFollow(text + "m", "0123456");
            for (char first = '0'; first <= '6'; first++) mayFollow(text + "m" + first, "1234");
        }
        mayFollow("f00", ",");
        mayFollow("m64", ",");
        mayFollow("f00,f00,f00,f00,f29", ",");
    }

    /** The sixth of the FEASTS is the last: nothing may come behind it. */
    private static void promise04nothingBehindTheSixth() {
        mayFollow(SIX, "");
        mayFollow("f00,f01,f02,f03,f04,m64", "");
    }

    /** The first of several is told, and later letters change nothing in it. */
    private static void promise04theFirstOfSeveral() {
        WolfCalendar x = new WolfCalendar();
        write(x, "f0");
        due("none yet", x.fault(), 2);
        write(x, "x");
        due("at 2", x.fault(), 2);
        write(x, ",m99,zzz");
        due("at 2 still", x.fault(), 2);
        WolfCalendar y = new WolfCalendar();
        write(y, "999999999999999999999999");
        due("at 0 of a full one", y.fault(), 0);
    }

    /** "how many letters it has, if there is none": none at all, one, 23; the 24th is always one too many. */
    private static void promise04none() {
        WolfCalendar x = new WolfCalendar();
        due("empty", x.fault(), 0);
        x.letter('f');
        due("one", x.fault(), 1);
        x.blank();
        due("empty again", x.fault(), 0);
        write(x, SIX);
        due("23", x.fault(), 23);
        x.letter(',');
        due("24", x.fault(), 23);
        due("letters", x.count(7), 24);
    }

    /** "STATE: they are none": an empty page, each unfinished one, one with a fault at its end or its start. */
    private static void promise05none() {
        for (int length = 0; length <= 24; length++) {
            WolfCalendar x = withFeasts("f29");
            write(x, (SIX + ",").substring(0, length));
            boolean whole = length % 4 == 3 && length < 24;
            due(length + " letters", x.feasts(), whole ? (length + 1) / 4 : STATE);
            due(length + " letters, THE PAGE then", x.count(7), whole ? 0 : length);
            due(length + " letters, read", x.count(8), whole ? 2 : 1);
            due(length + " letters, FEASTS", x.count(0), whole ? (length + 1) / 4 : 1);
            due(length + " letters, f29", x.dayOf(29, 2), whole ? 0 : 1);
        }
        String[] none = {"f30", "m70", "m05", "m00", "xf00", "f00x", "00f", "f00,f01,f02,f03,f04,f30"};
        for (String text : none) {
            WolfCalendar x = new WolfCalendar();
            write(x, text);
            due("FEASTS of " + text, x.feasts(), STATE);
            due("THE PAGE of " + text, x.count(7), text.length());
        }
    }

    /** "(others are gone)": of six none is left, of whichever kind. */
    private static void promise05othersAreGone() {
        WolfCalendar x = withFeasts("f00,m01,f10,m64,f29,m32");
        write(x, "f05");
        due("one", x.feasts(), 1);
        for (int day = 0; day < 210; day++) due("FEAST on " + day, x.dayOf(day, 2), day % 30 == 5 ? 1 : 0);
        due("how many", x.count(0), 1);
    }

    /** "how many": one that stands there twice is two. */
    private static void promise05theSameTwice() {
        WolfCalendar x = new WolfCalendar();
        write(x, "f00,f00,m01,m01,f00,f00");
        due("six", x.feasts(), 6);
        due("how many", x.count(0), 6);
        due("DAY 0", x.dayOf(0, 2), 1);
        due("DAY 1", x.dayOf(1, 2), 0);
    }

    // ---- 6 to 14

    /** "UNKNOWN: day (0 to 9999)": the first and the last are told in all. */
    private static void promise06days0to9999() {
        WolfCalendar x = withFeasts("f09,m01");
        int[] first = {0, 0, 1, 0};
        int[] last = {3, 9, 1, 333};
        for (int what = 0; what < 4; what++) {
            due("first " + what, x.dayOf(0, what), first[what]);
            due("last " + what, x.dayOf(9999, what), last[what]);
            due("ahead of it " + what, x.dayOf(-1, what), UNKNOWN);
            due("behind it " + what, x.dayOf(10000, what), UNKNOWN);
        }
        due("9998 is none", x.dayOf(9998, 2), 0);
        write(x, "m32");
        x.feasts();
        // YEAR 333 begins on 9990 with WEEKDAY 1: WEEKDAY 3 falls on 9992 and 9999.
        due("the second WEEKDAY 3 of the last YEAR", x.dayOf(9999, 2), 1);
        due("not the first", x.dayOf(9992, 2), 0);
    }

    /** "What is FORGED in a CELL becomes so much: what it was": the CELLS 0 and 7, the numbers 0 and 29. */
    private static void promise07endsOfForging() {
        WolfCalendar x = new WolfCalendar();
        int[] cells = {0, 7};
        for (int cell : cells) {
            due("to 29", x.forge(cell, 29), 0);
            due("to the same", x.forge(cell, 29), 29);
            due("to 0", x.forge(cell, 0), 29);
            due("to 1", x.forge(cell, 1), 0);
        }
        for (int cell = 1; cell < 7; cell++) due("CELL " + cell, x.forge(cell, 0), 0);
        due("two CELLS", x.count(5), 2);
    }

    /** "A PACK: its number": all of the least, all of the greatest. */
    private static void promise08endsOfPacks() {
        WolfCalendar x = new WolfCalendar();
        due("the least", x.pack(0, 0, 0), 0);
        due("the greatest", x.pack(4, 7, 9), 1);
        int[] least = {0, 0, 0, 210};
        int[] greatest = {4, 7, 9, 201};
        for (int what = 0; what < 4; what++) {
            due("of the least " + what, x.about(0, what), least[what]);
            due("of the greatest " + what, x.about(1, what), greatest[what]);
        }
    }

    /** "5 what it would HUNT now, all others in their places (NONE)": not what an earlier PACK leaves. */
    private static void promise09allOthersInTheirPlaces() {
        WolfCalendar x = new WolfCalendar();
        x.pack(STARVED, 3, 0);
        x.pack(STARVED, 3, 0);
        x.pack(PACK, 0, 0);
        due("nobody", x.about(0, 5), NONE);
        x.flock(5, 3);
        due("the first", x.about(0, 5), 0);
        due("the second, the same", x.about(1, 5), 0);
        due("one that is far", x.about(2, 5), NONE);
        x.day();
        due("EATEN", x.about(1, 5), NONE);
    }

    /** "6 how many it has EATEN": none, and all five. */
    private static void promise09howManyItHasEaten() {
        WolfCalendar x = new WolfCalendar();
        x.pack(STARVED, 3, 0);
        x.pack(STARVED, 7, 0);
        for (int n = 0; n < 5; n++) x.flock(9, 3);
        for (int n = 0; n <= 6; n++) {
            due("behind " + n + " DAYS", x.about(0, 6), Math.min(n, 5));
            due("the other", x.about(1, 6), 0);
            x.day();
        }
    }

    /** "A PACK taken as a KIND: its number; NONE: it is none such": by the last PACK, not by its KIND. */
    private static void promise10theNumberIsThePacks() {
        WolfCalendar x = new WolfCalendar();
        for (int n = 0; n < 4; n++) x.pack(PILGRIM - n, n, 0);
        for (int n = 0; n < 4; n++) {
            for (int kind : KINDS) {
                int its = PILGRIM - n;
                boolean such = kind == PACK || kind == its || its == PILGRIM && kind == HERETIC;
                due(its + " as " + kind, x.as(n, kind), such ? n : NONE);
            }
        }
    }

    /** "which FLOCK": each is told by its own row, the first and the last of five; "(NONE)" while it lives. */
    private static void promise12byWhichPack() {
        WolfCalendar x = new WolfCalendar();
        for (int n = 0; n < 4; n++) x.pack(STARVED, 2 * n, 0);
        for (int n = 0; n < 5; n++) x.flock(9, n < 4 ? 6 - 2 * n : 7);
        for (int n = 0; n < 5; n++) due("lives", x.flockOf(n, 3), NONE);
        due("four", x.day(), 15);
        for (int n = 0; n < 4; n++) due("by", x.flockOf(n, 3), 3 - n);
        due("the last lives", x.flockOf(4, 3), NONE);
        due("the last is not EATEN", x.flockOf(4, 2), 0);
        due("then it is", x.day(), 16);
        due("by the last", x.flockOf(4, 3), 3);
    }

    /** "A FLOCK has another NAME: what it was": 0, 9 and its own. */
    private static void promise13endsOfNames() {
        WolfCalendar x = new WolfCalendar();
        x.flock(5, 3);
        int[] names = {0, 9, 9, 0, 0, 5};
        int was = 5;
        for (int name : names) {
            due("to " + name, x.name(0, name), was);
            due("is " + name, x.flockOf(0, 0), name);
            was = name;
        }
    }

    /** "A FLOCK is in another CELL: where it was": from one end to the other, and where it is. */
    private static void promise14endsOfCells() {
        WolfCalendar x = new WolfCalendar();
        x.flock(5, 3);
        int[] cells = {0, 7, 7, 0, 0, 3};
        int was = 3;
        for (int cell : cells) {
            due("to " + cell, x.move(0, cell), was);
            due("is in " + cell, x.flockOf(0, 1), cell);
            was = cell;
        }
    }

    // ---- 15 to 24

    /** "which FLOCKS are EATEN on it, as bits": none, each bit alone, and not those of earlier DAYS. */
    private static void promise15bits() {
        for (int flock = 0; flock < 5; flock++) {
            WolfCalendar x = new WolfCalendar();
            x.pack(STARVED, 3, 0);
            for (int n = 0; n < 5; n++) x.flock(9, n == flock ? 4 : 6);
            due("bit " + flock, x.day(), 1 << flock);
            due("and then none", x.day(), 0);
        }
    }

    /** "LOSS": what is EATEN already is not lost again. */
    private static void promise16notThoseNow() {
        WolfCalendar x = new WolfCalendar();
        x.pack(STARVED, 3, 0);
        for (int n = 0; n < 5; n++) x.flock(9, 3);
        for (int n = 0; n <= 5; n++) {
            due("LOSS of 60 on DAY " + n, x.loss(60), 5 - n);
            due("LOSS of 0 on DAY " + n, x.loss(0), 0);
            x.day();
        }
    }

    /** "FALLS; NONE": nobody is there, or it is far, or all is as on the last DAY. */
    private static void promise17none() {
        WolfCalendar x = new WolfCalendar();
        x.flock(5, 0);
        due("no PACK", x.falls(0), NONE);
        x.pack(STARVED, 2, 0);
        due("two away", x.falls(0), NONE);
        x.pack(STARVED, 7, 0);
        due("at the other end", x.falls(0), NONE);
        x.move(0, 1);
        due("beside", x.falls(0), 1);
    }

    /** "SAFE; NONE": by 30 DAYS each NAME has been passed over. */
    private static void promise18none() {
        WolfCalendar x = new WolfCalendar();
        x.pack(CUBS, 0, 0);
        x.flock(5, 0);
        due("one DAY", x.safe(0, 1), 0);
        due("two", x.safe(0, 2), NONE);
        due("30", x.safe(0, 30), NONE);
        x.move(0, 2);
        due("two away, 30", x.safe(0, 30), 0);
    }

    /** "STATE: graze() was done 60 times": the 60th is answered, and what is refused was not done. */
    private static void promise19sixtyTimes() {
        WolfCalendar x = new WolfCalendar();
        x.flock(5, 3);
        for (int n = 1; n <= 60; n++) {
            due("refused", x.graze(0, 7, 0), OUTSIDE);
            due("time " + n, x.graze(0, 1, n % 2), n % 2 == 0 ? 2 : 3);
            due("done", x.count(9), n);
        }
        due("the 61st", x.graze(0, 1, 0), STATE);
        due("the 62nd", x.graze(0, 1, 1), STATE);
        due("done", x.count(9), 60);
        due("refused still", x.graze(0, 7, 0), OUTSIDE);
    }

    /** Those that answer NONE or 0 were done, too. */
    private static void promise19noneWasDone() {
        WolfCalendar x = new WolfCalendar();
        x.flock(5, 0);
        x.pack(STARVED, 0, 0);
        due("NONE", x.graze(0, 1, 0), NONE);
        due("no rows", x.graze(0, 1, 1), 0);
        due("done", x.count(9), 2);
    }

    /** "what = 0 the number, 1 how many DAYS; NONE": by the last of four PACKS, on a later DAY. */
    private static void promise20theLastPack() {
        WolfCalendar x = new WolfCalendar();
        for (int n = 0; n < 4; n++) x.pack(n < 3 ? STARVED : HERETIC, n, 9);
        due("201 is a FRIDAY", x.nail(3, 0), 0);
        due("one DAY", x.nail(3, 1), 1);
        due("NONE", x.nail(2, 0), NONE);
        due("no DAYS", x.nail(2, 1), NONE);
        x.day();
        due("a DAY later 208 is", x.nail(3, 0), 6);
    }

    /** "(what was SEEN is gone): how much there was": none, and eight. */
    private static void promise21howMuchThereWas() {
        WolfCalendar x = new WolfCalendar();
        x.pack(PACK, 3, 0);
        due("it had not begun", x.watch(0), 0);
        due("none", x.watch(0), 0);
        for (int n = 0; n < 8; n++) x.seen(true);
        due("eight", x.watch(0), 8);
        due("gone", x.count(6), 0);
        due("all fits", x.fits(0), 1023);
        due("there is room", x.seen(true), 1);
    }

    /** "STATE: it has not begun; FULL" */
    private static void promise22firstAndLast() {
        WolfCalendar x = new WolfCalendar();
        due("no PACK", x.seen(true), STATE);
        x.pack(PACK, 3, 0);
        due("not begun", x.seen(false), STATE);
        x.watch(0);
        for (int n = 1; n <= 8; n++) due("SEEN", x.seen(false), n);
        due("FULL", x.seen(false), FULL);
        due("FULL, hunted", x.seen(true), FULL);
    }

    /** "by what is FORGED now": not by what was when it was SEEN, and in the PACK's own CELL alone. */
    private static void promise23byWhatIsForgedNow() {
        WolfCalendar x = new WolfCalendar();
        x.pack(PACK, 3, 0);
        x.forge(3, 5);
        x.watch(0);
        x.seen(false);
        due("215", x.fits(1), 1 | 2 | 8 | 16);
        x.forge(2, 29);
        x.forge(4, 29);
        due("not by those beside", x.fits(1), 1 | 2 | 8 | 16);
        x.forge(3, 6);
        due("216", x.fits(1), 0);
        x.forge(3, 0);
        write(x, "f00");
        x.feasts();
        due("f00: all but CUBS", x.fits(1), 1 | 4 | 8 | 16);
    }

    /** "how many are EATEN then (those now, too)": none at all, all already. */
    private static void promise24thoseNowToo() {
        WolfCalendar x = new WolfCalendar();
        due("nobody", x.years(60, 1, 0), 0);
        x.pack(STARVED, 3, 0);
        for (int n = 0; n < 5; n++) x.flock(9, 3);
        days(x, 2);
        due("two now, one then", x.years(1, 1, 0), 3);
        due("all then", x.years(60, 1, 0), 5);
        days(x, 3);
        due("all now", x.years(1, 1, 0), 5);
        due("nothing goes on", x.count(4), 5);
    }

    // ---- 25 to 28

    /** "An IMAGE is kept (one; the latest)" */
    private static void promise25theLatest() {
        WolfCalendar x = new WolfCalendar();
        for (int n = 0; n < 4; n++) {
            due("DAY", x.image(), n);
            x.day();
        }
        due("the latest", x.restore(), 3);
        due("and no earlier one", x.restore(), 3);
        due("kept on going back", x.image(), 3);
    }

    /** "STATE: none was kept", though there was a DAY to go back to. */
    private static void promise26noneWasKept() {
        WolfCalendar x = new WolfCalendar();
        due("at first", x.restore(), STATE);
        days(x, 2);
        due("later", x.restore(), STATE);
        due("DAY", x.count(4), 2);
        x.image();
        due("then", x.restore(), 2);
    }

    /** What an IMAGE keeps not: FEASTS, THE PAGE, how often was read and grazed. */
    private static void promise26notInAnImage() {
        WolfCalendar x = withFeasts("f01");
        x.flock(5, 3);
        write(x, "f0");
        x.image();
        write(x, "2,f03");
        x.feasts();
        write(x, "m");
        x.graze(0, 1, 0);
        due("DAY", x.restore(), 0);
        due("FEASTS", x.count(0), 2);
        due("f01", x.dayOf(1, 2), 0);
        due("f02", x.dayOf(2, 2), 1);
        due("letters", x.count(7), 1);
        due("read", x.count(8), 2);
        due("grazed", x.count(9), 1);
    }

    /** Each count at its greatest. */
    private static void promise27atTheGreatest() {
        WolfCalendar x = withFeasts(SIX);
        write(x, SIX);
        x.feasts();
        for (int n = 0; n < 4; n++) x.pack(STARVED, 3, 0);
        for (int n = 0; n < 5; n++) x.flock(9, n < 4 ? 3 : 6);
        for (int cell = 0; cell < 8; cell++) x.forge(cell, 8);
        for (int n = 0; n < 60; n++) x.graze(4, 1, 0);
        x.move(4, 3);
        due("four by now", x.day(), 15);
        x.forge(3, 10);
        due("and the last", x.day(), 16);
        x.watch(3);
        for (int n = 0; n < 8; n++) x.seen(true);
        write(x, SIX + ",,");
        int[] want = {6, 4, 5, 5, 2, 8, 8, 24, 2, 60};
        for (int what = 0; what < want.length; what++) due("count " + what, x.count(what), want[what]);
    }

    /** "5 CELLS where something is FORGED (not 0)": one that is right again counts not. */
    private static void promise27forgedNot0() {
        WolfCalendar x = new WolfCalendar();
        for (int cell = 0; cell < 8; cell++) {
            x.forge(cell, 1);
            due("CELLS", x.count(5), cell + 1);
        }
        for (int cell = 0; cell < 8; cell++) {
            x.forge(cell, 0);
            due("CELLS left", x.count(5), 7 - cell);
        }
    }

    /** "31 times h, and it (as longs, wrapping)": 23 numbers of a new object wrap it by hand. */
    private static void promise28wraps() {
        long h = 743;
        for (int n = 0; n < 4 + 8 + 1 + 10; n++) h = 31 * h;
        due("new", new WolfCalendar().digest(), h);
        WolfCalendar x = new WolfCalendar();
        x.forge(7, 29);
        // 29 is the 12th number, 11 come behind it; the count of CELLS, 1, is the 19th, 4 behind it.
        long forged = 29;
        for (int n = 0; n < 11; n++) forged = 31 * forged;
        long counted = 1;
        for (int n = 0; n < 4; n++) counted = 31 * counted;
        due("with one number FORGED", x.digest(), h + forged + counted);
    }

    /** "of each FLOCK .. if it is not EATEN, FALLS"; NONE counts as the number that it is. */
    private static void promise28flocks() {
        WolfCalendar x = new WolfCalendar();
        x.flock(5, 3);
        due("lives, NONE twice", x.digest(), digestOf(x, ""));
        x.pack(STARVED, 3, 0);
        x.flock(6, 3);
        for (int n = 0; n < 3; n++) {
            due("DAY " + n, x.digest(), digestOf(x, ""));
            x.day();
        }
        due("all are EATEN", x.count(3), 2);
    }

    /** "with SEEN what fits() tells": when it has begun, though nothing is SEEN yet; up to eight. */
    private static void promise28seen() {
        WolfCalendar x = new WolfCalendar();
        x.pack(PACK, 3, 0);
        long before = x.digest();
        x.watch(0);
        due("it has begun", x.digest() != before);
        for (int n = 0; n <= 8; n++) {
            due(n + " SEEN", x.digest(), digestOf(x, ""));
            x.seen(n != 5);
        }
    }

    /** "letters of THE PAGE": none, one, all 24. */
    private static void promise28letters() {
        WolfCalendar x = new WolfCalendar();
        StringBuilder page = new StringBuilder();
        for (int n = 0; n <= 24; n++) {
            due(n + " letters", x.digest(), digestOf(x, page.toString()));
            char letter = (char) (n % 2 == 0 ? 32 + n : 126 - n);
            x.letter(letter);
            page.append(letter);
        }
        x.blank();
        due("none again", x.digest(), digestOf(x, ""));
    }

    public static void main(String[] args) {
        runAll(BoundaryPromisesTest.class);
        close();
    }
}
