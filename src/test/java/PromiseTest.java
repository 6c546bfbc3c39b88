/** Each promise of the document by rows worked out by hand: ordinary inputs, its edges, wrong inputs. */
public final class PromiseTest extends Asking {
    private static void constants() {
        due("NONE", WolfCalendar.NONE, NONE);
        due("UNKNOWN", WolfCalendar.UNKNOWN, UNKNOWN);
        due("OUTSIDE", WolfCalendar.OUTSIDE, OUTSIDE);
        due("STATE", WolfCalendar.STATE, STATE);
        due("FULL", WolfCalendar.FULL, FULL);
    }

    private static void promise01newObject() {
        WolfCalendar x = new WolfCalendar();
        for (int what = 0; what <= 9; what++) due("1 count(" + what + ")", x.count(what), 0);
        for (int day = 0; day < 210; day++) due("1 dayOf(" + day + ", 2)", x.dayOf(day, 2), 0);
        due("1 about", x.about(0, 0), UNKNOWN);
        due("1 flockOf", x.flockOf(0, 0), UNKNOWN);
        due("1 fits", x.fits(0), STATE);
        due("1 restore", x.restore(), STATE);
        for (int cell = 0; cell < 8; cell++) due("1 forge", x.forge(cell, 0), 0);
        due("1 day", x.day(), 0);
    }

    private static void promise02letter() {
        WolfCalendar x = new WolfCalendar();
        int[] bad = {LEAST, -1, 0, 31, 127, 128, 65536 + 102, MOST};
        for (int code : bad) due("2 letter(" + code + ")", x.letter(code), OUTSIDE);
        due("2 letter(32)", x.letter(32), 1);
        due("2 letter(126)", x.letter(126), 2);
        for (int n = 3; n <= 24; n++) due("2 letter " + n, x.letter('f'), n);
        due("2 letter 25", x.letter('f'), FULL);
        due("2 letter, OUTSIDE first", x.letter(127), OUTSIDE);
        due("2 page", x.count(7), 24);
    }

    private static void promise03blank() {
        WolfCalendar x = withFeasts("f00");
        due("3 blank, empty", x.blank(), 0);
        write(x, "f0,");
        due("3 blank", x.blank(), 3);
        due("3 blank again", x.blank(), 0);
        due("3 letters", x.count(7), 0);
        due("3 letter behind", x.letter('x'), 1);
        x.blank();
        write(x, "012345678901234567890123");
        due("3 blank, full", x.blank(), 24);
        due("3 feasts stay", x.count(0), 1);
    }

    private static void faultIs(String text, int want) {
        WolfCalendar x = new WolfCalendar();
        write(x, text);
        due("4 fault of " + text, x.fault(), want);
        due("4 fault again of " + text, x.fault(), want);
        due("4 letters of " + text, x.count(7), text.length());
    }

    private static void promise04fault() {
        String[] prefixes = {"", "f", "f0", "f1", "f2", "f00", "f09", "f19", "f20", "f29", "m", "m0", "m6", "m01", "m64",
            "f00,", "m34,f", "f00,m", "f00,f00", "f00,f00,m11,m11,m11,", SIX};
        for (String text : prefixes) faultIs(text, text.length());
        String[] atZero = {"x", "F00", "M11", ",", "0", " f00", "xf00"};
        for (String text : atZero) faultIs(text, 0);
        String[] atOne = {"f3", "f30", "f/", "f:", "f ", "ff", "fm", "f,", "m7", "m71", "m/", "mm", "m,"};
        for (String text : atOne) faultIs(text, 1);
        String[] atTwo = {"f0,", "f0/", "f2:", "f0f", "m0,", "m00", "m05", "m65,f00", "m3m"};
        for (String text : atTwo) faultIs(text, 2);
        String[] atThree = {"f000", "f00f", "f00;", "m11 ", "m110", "f00."};
        for (String text : atThree) faultIs(text, 3);
        faultIs("f00,,", 4);
        faultIs("f00,0", 4);
        faultIs("f00,m70", 5);
        faultIs("m11,f03,m15", 10);
        faultIs(SIX + ",", 23);
        faultIs(SIX + "x", 23);
    }

    private static void promise05feasts() {
        WolfCalendar x = new WolfCalendar();
        due("5 empty", x.feasts(), STATE);
        write(x, "f07,m11");
        due("5 two", x.feasts(), 2);
        due("5 page empty", x.count(7), 0);
        due("5 f07", x.dayOf(37, 2), 1);
        due("5 m11", x.dayOf(36, 2), 1);
        String[] none = {"f", "f0", "f07,", "f07,m", "f07,m1", "f30", "m15", "m70", "m00", "g07", "f07;f08", "f07f08f09f10", SIX + ","};
        for (String text : none) {
            write(x, text);
            due("5 feasts of " + text, x.feasts(), STATE);
            due("5 page kept of " + text, x.blank(), text.length());
        }
        due("5 still two", x.count(0), 2);
        due("5 read once", x.count(8), 1);
        due("5 f07 still", x.dayOf(37, 2), 1);
        write(x, "f29");
        due("5 one", x.feasts(), 1);
        due("5 others are gone", x.dayOf(37, 2), 0);
        due("5 m11 is gone", x.dayOf(36, 2), 0);
        due("5 f29", x.dayOf(59, 2), 1);
        write(x, "f29,f29");
        due("5 the same twice", x.feasts(), 2);
        write(x, SIX);
        due("5 six", x.feasts(), 6);
        due("5 read", x.count(8), 4);
        due("5 number", x.count(0), 6);
        write(x, "m12");
        x.feasts();
        for (int day = 0; day < 210; day++) {
            boolean second = day % 7 == 1 && day % 30 >= 7 && day % 30 < 14;
            due("5 only m12, day " + day, x.dayOf(day, 2), second ? 1 : 0);
        }
    }

    private static void promise06dayOf() {
        WolfCalendar x = withFeasts("f13,m01,m64,m23");
        int[] bad = {LEAST, -1, 10000, MOST};
        for (int day : bad) {
            due("6 day " + day, x.dayOf(day, 0), UNKNOWN);
            due("6 UNKNOWN first " + day, x.dayOf(day, 4), UNKNOWN);
        }
        int[] outside = {LEAST, -1, 4, MOST};
        for (int what : outside) due("6 what " + what, x.dayOf(0, what), OUTSIDE);
        due("6 weekday 0", x.dayOf(0, 0), 0);
        due("6 weekday 6", x.dayOf(6, 0), 6);
        due("6 weekday 7", x.dayOf(7, 0), 0);
        due("6 weekday 9999", x.dayOf(9999, 0), 3);
        due("6 name 29", x.dayOf(29, 1), 9);
        due("6 name 30", x.dayOf(30, 1), 0);
        due("6 name 47", x.dayOf(47, 1), 7);
        due("6 year 29", x.dayOf(29, 3), 0);
        due("6 year 30", x.dayOf(30, 3), 1);
        due("6 year 9999", x.dayOf(9999, 3), 333);
        // YEAR 0 begins on WEEKDAY 0: m01 on 0, m64 on 27, m23 on 16; YEAR 1 on WEEKDAY 2: 35, 55, 44.
        int[] feasts = {0, 13, 16, 27, 35, 43, 44, 55};
        for (int day = 0, next = 0; day < 60; day++) {
            boolean feast = next < feasts.length && feasts[next] == day;
            due("6 feast " + day, x.dayOf(day, 2), feast ? 1 : 0);
            if (feast) next++;
        }
        due("6 feast of the last YEAR", x.dayOf(333 * 30 + 13 - 7 * 30, 2), 1);
    }

    private static void promise07forge() {
        WolfCalendar x = new WolfCalendar();
        due("7 forge", x.forge(0, 29), 0);
        due("7 forge back", x.forge(0, 0), 29);
        due("7 forge 7", x.forge(7, 12), 0);
        due("7 again", x.forge(7, 13), 12);
        int[] badCells = {LEAST, -1, 8, MOST};
        for (int cell : badCells) {
            due("7 cell " + cell, x.forge(cell, 0), UNKNOWN);
            due("7 UNKNOWN first " + cell, x.forge(cell, 30), UNKNOWN);
        }
        int[] badDays = {LEAST, -1, 30, MOST};
        for (int days : badDays) due("7 days " + days, x.forge(7, days), OUTSIDE);
        due("7 unchanged", x.forge(7, 1), 13);
    }

    private static void promise08pack() {
        WolfCalendar x = new WolfCalendar();
        int[] badCells = {LEAST, -1, 8, MOST};
        for (int cell : badCells) {
            due("8 cell " + cell, x.pack(0, cell, 0), UNKNOWN);
            due("8 UNKNOWN first " + cell, x.pack(5, cell, 10), UNKNOWN);
        }
        int[] badKinds = {LEAST, -1, 5, MOST};
        for (int kind : badKinds) due("8 kind " + kind, x.pack(kind, 0, 0), OUTSIDE);
        int[] badLags = {LEAST, -1, 10, MOST};
        for (int lag : badLags) due("8 lag " + lag, x.pack(0, 0, lag), OUTSIDE);
        due("8 none yet", x.count(1), 0);
        due("8 first", x.pack(0, 0, 0), 0);
        due("8 second", x.pack(4, 7, 9), 1);
        due("8 third", x.pack(2, 0, 0), 2);
        due("8 fourth", x.pack(3, 1, 5), 3);
        due("8 FULL", x.pack(0, 0, 0), FULL);
        due("8 OUTSIDE ahead of FULL", x.pack(5, 0, 0), OUTSIDE);
        due("8 OUTSIDE lag ahead of FULL", x.pack(0, 0, 10), OUTSIDE);
        due("8 UNKNOWN ahead of FULL", x.pack(0, 8, 0), UNKNOWN);
        due("8 four", x.count(1), 4);
    }

    private static void fasts(String feasts, int kind, int lag, int forged, int want) {
        WolfCalendar x = feasts.isEmpty() ? new WolfCalendar() : withFeasts(feasts);
        x.pack(kind, 3, lag);
        x.forge(3, forged);
        due("9 fasts, kind " + kind + " lag " + lag + " forged " + forged + " by " + feasts, x.about(0, 4), want);
        due("9 kind " + kind, x.about(0, 0), kind);
        x.flock((forged + 30 - (kind >= HERETIC ? lag : 0) + 5) % 10, 3);
        due("9 hunts, kind " + kind + " lag " + lag + " forged " + forged, x.about(0, 5), want == 1 ? NONE : 0);
    }

    private static void promise09about() {
        WolfCalendar x = new WolfCalendar();
        due("9 nobody", x.about(0, 0), UNKNOWN);
        x.pack(PILGRIM, 6, 7);
        x.pack(CUBS, 2, 9);
        due("9 kind", x.about(0, 0), PILGRIM);
        due("9 cell", x.about(0, 1), 6);
        due("9 lag", x.about(0, 2), 7);
        due("9 reads", x.about(0, 3), 203);
        due("9 kind of cubs", x.about(1, 0), CUBS);
        due("9 lag of cubs", x.about(1, 2), 9);
        due("9 cubs read without the lag", x.about(1, 3), 210);
        due("9 eaten", x.about(1, 6), 0);
        x.forge(6, 29);
        x.day();
        due("9 reads, forged and later", x.about(0, 3), 233);
        due("9 the other cell is right", x.about(1, 3), 211);
        int[] unknown = {LEAST, -1, 2, 4, MOST};
        for (int pack : unknown) due("9 pack " + pack, x.about(pack, 9), UNKNOWN);
        int[] outside = {LEAST, -1, 7, MOST};
        for (int what : outside) due("9 what " + what, x.about(0, what), OUTSIDE);
        promise09fasting();
        promise09prey();
    }

    private static void promise09fasting() {
        // 215 is a FRIDAY, 216 and 217 are none.
        for (int kind : KINDS) fasts("", kind, 0, 5, kind == STARVED ? 0 : 1);
        for (int kind : KINDS) fasts("", kind, 0, 6, 0);
        // 217 is the FEAST f07 and no FRIDAY; a PILGRIM fasts on 216 as well.
        for (int kind : KINDS) fasts("f07", kind, 0, 7, kind == CUBS ? 0 : 1);
        for (int kind : KINDS) fasts("f07", kind, 0, 6, kind == PILGRIM ? 1 : 0);
        for (int kind : KINDS) fasts("f07", kind, 0, 8, 0);
        // The eve at the end of a YEAR: 239 READ, 240 is f00.
        fasts("f00", PILGRIM, 0, 29, 1);
        fasts("f00", HERETIC, 0, 29, 0);
        // LAGS count for a HERETIC and a PILGRIM alone.
        for (int kind : KINDS) fasts("", kind, 4, 9, kind >= HERETIC ? 1 : 0);
        for (int kind : KINDS) fasts("", kind, 5, 5, kind == STARVED || kind >= HERETIC ? 0 : 1);
    }

    private static void promise09prey() {
        WolfCalendar x = new WolfCalendar();
        x.pack(PACK, 3, 0);
        due("9 no flock", x.about(0, 5), NONE);
        x.flock(1, 4);
        x.flock(1, 5);
        due("9 beside, above", x.about(0, 5), 0);
        x.flock(1, 2);
        due("9 beside, the lesser first", x.about(0, 5), 2);
        x.flock(1, 3);
        x.flock(1, 3);
        due("9 its own, the least number", x.about(0, 5), 3);
        x.name(3, 0);
        due("9 not on its name day", x.about(0, 5), 4);
        x.forge(3, 1);
        due("9 the name of the day that it READS", x.about(0, 5), 3);
        x.move(3, 1);
        x.forge(3, 0);
        due("9 cell 1 is too far", x.about(0, 5), 4);
        x.pack(PACK, 3, 0);
        due("9 all others in their places", x.about(1, 5), 4);
        due("9 both eat", x.day(), 1 << 4 | 1 << 2);
        due("9 eaten by the first", x.about(0, 6), 1);
        due("9 eaten by the second", x.about(1, 6), 1);
        due("9 the last is spared on its name day", x.day(), 0);
        x.day();
        due("9 eaten by the first, later", x.about(0, 6), 2);
    }

    private static void promise10as() {
        WolfCalendar x = new WolfCalendar();
        for (int kind = 1; kind <= 4; kind++) x.pack(kind, 0, 0);
        int[][] want = {{0, 0, NONE, NONE, NONE}, {1, NONE, 1, NONE, NONE}, {2, NONE, NONE, 2, NONE}, {3, NONE, NONE, 3, 3}};
        for (int pack = 0; pack < 4; pack++) {
            for (int kind = 0; kind < 5; kind++) due("10 as(" + pack + ", " + kind + ")", x.as(pack, kind), want[pack][kind]);
        }
        int[] unknown = {LEAST, -1, 4, MOST};
        for (int pack : unknown) due("10 pack " + pack, x.as(pack, 5), UNKNOWN);
        int[] outside = {LEAST, -1, 5, MOST};
        for (int kind : outside) due("10 kind " + kind, x.as(0, kind), OUTSIDE);
        WolfCalendar y = new WolfCalendar();
        y.pack(PACK, 0, 0);
        due("10 a PACK is one", y.as(0, PACK), 0);
        for (int kind = 1; kind < 5; kind++) due("10 a PACK as " + kind, y.as(0, kind), NONE);
        due("10 unknown still", y.as(1, 0), UNKNOWN);
    }

    private static void promise11flock() {
        WolfCalendar x = new WolfCalendar();
        int[] badNames = {LEAST, -1, 10, MOST};
        for (int name : badNames) {
            due("11 name " + name, x.flock(name, 0), OUTSIDE);
            due("11 OUTSIDE first " + name, x.flock(name, 8), OUTSIDE);
        }
        int[] badCells = {LEAST, -1, 8, MOST};
        for (int cell : badCells) due("11 cell " + cell, x.flock(0, cell), UNKNOWN);
        due("11 none yet", x.count(2), 0);
        for (int n = 0; n < 5; n++) due("11 flock " + n, x.flock(9 - n, 7 - n), n);
        due("11 FULL", x.flock(0, 0), FULL);
        due("11 OUTSIDE ahead of FULL", x.flock(10, 0), OUTSIDE);
        due("11 UNKNOWN ahead of FULL", x.flock(0, 8), UNKNOWN);
        due("11 five", x.count(2), 5);
    }

    private static void promise12flockOf() {
        WolfCalendar x = new WolfCalendar();
        x.flock(9, 7);
        x.flock(2, 0);
        x.pack(PACK, 4, 0);
        x.pack(PACK, 1, 0);
        int[] before = {9, 7, 0, NONE};
        for (int what = 0; what < 4; what++) due("12 before " + what, x.flockOf(0, what), before[what]);
        x.day();
        int[] eaten = {2, 0, 1, 1};
        for (int what = 0; what < 4; what++) due("12 eaten " + what, x.flockOf(1, what), eaten[what]);
        for (int what = 0; what < 4; what++) due("12 the other " + what, x.flockOf(0, what), before[what]);
        int[] unknown = {LEAST, -1, 2, 5, MOST};
        for (int flock : unknown) due("12 flock " + flock, x.flockOf(flock, 4), UNKNOWN);
        int[] outside = {LEAST, -1, 4, MOST};
        for (int what : outside) due("12 what " + what, x.flockOf(1, what), OUTSIDE);
    }

    private static void promise13name() {
        WolfCalendar x = new WolfCalendar();
        x.flock(3, 3);
        due("13 name", x.name(0, 9), 3);
        due("13 name back", x.name(0, 0), 9);
        int[] badNames = {LEAST, -1, 10, MOST};
        for (int name : badNames) due("13 name " + name, x.name(0, name), OUTSIDE);
        int[] unknown = {LEAST, -1, 1, MOST};
        for (int flock : unknown) due("13 flock " + flock, x.name(flock, 10), UNKNOWN);
        due("13 unchanged", x.flockOf(0, 0), 0);
        x.pack(STARVED, 3, 0);
        due("13 its name day", x.day(), 0);
        due("13 eaten", x.day(), 1);
        due("13 EATEN", x.name(0, 1), UNKNOWN);
    }

    private static void promise14move() {
        WolfCalendar x = new WolfCalendar();
        x.flock(3, 3);
        due("14 move", x.move(0, 7), 3);
        due("14 move back", x.move(0, 0), 7);
        int[] badCells = {LEAST, -1, 8, MOST};
        for (int cell : badCells) due("14 cell " + cell, x.move(0, cell), UNKNOWN);
        int[] unknown = {LEAST, -1, 1, MOST};
        for (int flock : unknown) due("14 flock " + flock, x.move(flock, 0), UNKNOWN);
        due("14 unchanged", x.flockOf(0, 1), 0);
        x.pack(STARVED, 1, 0);
        due("14 eaten where it is now", x.day(), 1);
        due("14 EATEN", x.move(0, 1), UNKNOWN);
        due("14 stays", x.flockOf(0, 1), 0);
    }

    private static void promise15day() {
        WolfCalendar x = new WolfCalendar();
        due("15 nobody", x.day(), 0);
        due("15 the next DAY", x.count(4), 1);
        for (int n = 0; n < 3; n++) x.flock(5, 3);
        x.pack(PACK, 3, 0);
        x.pack(HERETIC, 2, 3);
        // DAY 1: the first READS 211 (no FRIDAY, name 1), the second 208 (a FRIDAY: 208 by 7 leaves 5).
        due("15 one eats, one fasts", x.day(), 1);
        // DAY 2: 212 and 209: both hunt, by number.
        due("15 both eat", x.day(), 6);
        due("15 by the first", x.flockOf(1, 3), 0);
        due("15 by the second", x.flockOf(2, 3), 1);
        due("15 nothing left", x.day(), 0);
        due("15 DAY", x.count(4), 4);
        WolfCalendar y = new WolfCalendar();
        y.pack(PACK, 0, 0);
        y.flock(0, 0);
        for (int n = 0; n < 5; n++) y.flock(1, 7);
        due("15 name day", y.day(), 0);
        due("15 eaten on the next", y.day(), 1);
        for (int n = 0; n < 40; n++) due("15 cell 7 is far", y.day(), 0);
    }

    private static void promise16loss() {
        WolfCalendar x = new WolfCalendar();
        int[] outside = {LEAST, -1, 61, MOST};
        for (int days : outside) due("16 days " + days, x.loss(days), OUTSIDE);
        x.pack(PACK, 3, 0);
        for (int n = 0; n < 5; n++) x.flock(n == 0 ? 1 : 9, n == 4 ? 6 : 3);
        int[] want = {0, 1, 2, 3, 4, 4, 4};
        for (int days = 0; days < want.length; days++) due("16 loss(" + days + ")", x.loss(days), want[days]);
        due("16 loss(60)", x.loss(60), 4);
        due("16 nothing changed", x.count(3) + x.count(4), 0);
        x.day();
        due("16 those now are not counted", x.loss(60), 3);
        due("16 loss(0)", x.loss(0), 0);
        // A FRIDAY in between: DAY 5.
        WolfCalendar y = new WolfCalendar();
        y.pack(PACK, 3, 0);
        for (int n = 0; n < 4; n++) y.day();
        for (int n = 0; n < 3; n++) y.flock(9, 3);
        due("16 FRIDAY", y.loss(2), 1);
        due("16 behind FRIDAY", y.loss(3), 2);
    }

    private static void promise17falls() {
        WolfCalendar x = new WolfCalendar();
        due("17 nobody", x.falls(0), UNKNOWN);
        x.flock(3, 3);
        due("17 no pack", x.falls(0), NONE);
        x.pack(PACK, 3, 0);
        x.flock(3, 4);
        x.flock(3, 6);
        due("17 on this one", x.falls(0), 1);
        due("17 on the next", x.falls(1), 2);
        due("17 never", x.falls(2), NONE);
        due("17 nothing changed", x.count(3) + x.count(4), 0);
        x.day();
        due("17 EATEN", x.falls(0), UNKNOWN);
        due("17 one later", x.falls(1), 1);
        int[] unknown = {LEAST, -1, 3, MOST};
        for (int flock : unknown) due("17 flock " + flock, x.falls(flock), UNKNOWN);
        promise17fasts();
    }

    private static void promise17fasts() {
        // DAYS 0 to 6 are FEASTS, but for 5, a FRIDAY; 7 is the first on which it HUNTS.
        WolfCalendar x = withFeasts(SIX);
        x.pack(PACK, 0, 0);
        x.flock(9, 0);
        due("17 behind seven fasts", x.falls(0), 8);
        x.name(0, 7);
        due("17 and its name day", x.falls(0), 9);
    }

    private static void promise18safe() {
        WolfCalendar x = new WolfCalendar();
        x.flock(3, 3);
        due("18 no pack", x.safe(0, 30), 0);
        x.pack(PACK, 3, 0);
        due("18 one DAY", x.safe(0, 1), 0);
        due("18 two DAYS", x.safe(0, 2), NONE);
        x.day();
        x.flock(1, 3);
        WolfCalendar y = new WolfCalendar();
        y.pack(PACK, 3, 0);
        y.pack(HERETIC, 2, 4);
        y.flock(5, 3);
        // The first READS 210 (name 0), the second 206 (206 by 30 leaves 26: name 6).
        due("18 two readings", y.safe(0, 1), NONE);
        y.forge(2, 8);
        due("18 forged alike: 214, name 4", y.safe(0, 1), NONE);
        y.forge(3, 4);
        due("18 both 214", y.safe(0, 1), 4);
        due("18 FRIDAY behind it", y.safe(0, 2), 4);
        due("18 216 behind that", y.safe(0, 3), NONE);
        // Another FLOCK is taken ahead of it, unless the NAME spares that one.
        WolfCalendar z = new WolfCalendar();
        z.pack(STARVED, 3, 0);
        z.flock(5, 3);
        z.flock(5, 3);
        due("18 another is taken", z.safe(1, 1), 0);
        due("18 then only by its name", z.safe(1, 2), 1);
        due("18 not for three", z.safe(1, 3), NONE);
        due("18 its name stays", z.flockOf(1, 0), 5);
        int[] outside = {LEAST, -1, 0, 31, MOST};
        for (int days : outside) due("18 days " + days, z.safe(0, days), OUTSIDE);
        z.day();
        int[] unknown = {LEAST, -1, 0, 2, MOST};
        for (int flock : unknown) due("18 flock " + flock, z.safe(flock, 0), UNKNOWN);
    }

    private static void promise19graze() {
        WolfCalendar x = new WolfCalendar();
        x.flock(3, 0);
        x.flock(3, 4);
        int[] rowsFromEdge = {0, 2, 5, 13, 35, 96, 267};
        for (int days = 1; days <= 6; days++) due("19 rows from the edge", x.graze(0, days, 1), rowsFromEdge[days]);
        due("19 first from the edge", x.graze(0, 6, 0), 0);
        due("19 first beside", x.graze(1, 1, 0), 3);
        due("19 rows of one", x.graze(1, 1, 1), 3);
        int[] outside = {LEAST, -1, 0, 7, MOST};
        for (int days : outside) due("19 days " + days, x.graze(0, days, 0), OUTSIDE);
        int[] whats = {LEAST, -1, 2, MOST};
        for (int what : whats) due("19 what " + what, x.graze(0, 1, what), OUTSIDE);
        int[] unknown = {LEAST, -1, 2, MOST};
        for (int flock : unknown) due("19 flock " + flock, x.graze(flock, 0, 2), UNKNOWN);
        due("19 done", x.count(9), 9);
        promise19packs();
        promise19times();
    }

    private static void promise19packs() {
        WolfCalendar x = new WolfCalendar();
        x.pack(STARVED, 0, 0);
        x.flock(3, 2);
        due("19 cell 1 is hunted", x.graze(0, 1, 1), 2);
        due("19 so 2 is first", x.graze(0, 1, 0), 2);
        // 2 then 2 or 3; 3 then 2, 3 or 4.
        due("19 two DAYS", x.graze(0, 2, 1), 5);
        x.name(0, 1);
        // On the second DAY, name 1, it is spared in cells 0 and 1: 2 then 1, 2, 3; 3 then 2, 3, 4.
        due("19 its name day", x.graze(0, 2, 1), 6);
        x.flock(5, 0);
        // The other stays, and is EATEN on the first DAY: 1 then 0, 1, 2, on its name day.
        due("19 another stays", x.graze(0, 2, 1), 9);
        due("19 first by it", x.graze(0, 2, 0), 1);
        due("19 nothing changed", x.flockOf(0, 1) * 10 + x.count(3) + x.count(4), 20);
        x.move(1, 7);
        x.name(0, 5);
        x.move(0, 1);
        due("19 only away", x.graze(0, 1, 0), 2);
        due("19 one row", x.graze(0, 1, 1), 1);
        x.move(0, 0);
        due("19 none", x.graze(0, 1, 0), NONE);
        due("19 no rows", x.graze(0, 1, 1), 0);
        x.day();
        due("19 EATEN", x.graze(0, 1, 1), UNKNOWN);
    }

    private static void promise19times() {
        WolfCalendar x = new WolfCalendar();
        x.flock(3, 2);
        x.image();
        for (int n = 0; n < 60; n++) {
            due("19 time " + n, x.graze(0, 1, n % 2), n % 2 == 0 ? 1 : 3);
            x.graze(0, 0, 0);
            x.graze(1, 1, 0);
        }
        due("19 STATE", x.graze(0, 1, 0), STATE);
        due("19 OUTSIDE ahead of STATE", x.graze(0, 7, 0), OUTSIDE);
        due("19 UNKNOWN ahead of STATE", x.graze(1, 1, 0), UNKNOWN);
        due("19 sixty", x.count(9), 60);
        x.restore();
        due("19 an IMAGE keeps it not", x.graze(0, 1, 0), STATE);
    }

    /** With all rows in use nothing is out of bounds. */
    private static void promise20allPacks() {
        WolfCalendar x = new WolfCalendar();
        for (int n = 0; n < 4; n++) x.pack(PACK, n, 0);
        for (int n = 0; n < 5; n++) x.flock(5, n);
        due("20 last pack", x.nail(3, 0), 5);
        due("20 all rows: loss", x.loss(1), 4);
        due("20 all rows: falls", x.falls(4), 2);
        due("20 all rows: image", x.image(), 0);
        due("20 all rows: day", x.day(), 15);
        due("20 all rows: restore", x.restore(), 0);
    }

    private static void promise20nail() {
        promise20allPacks();
        WolfCalendar x = new WolfCalendar();
        due("20 nobody", x.nail(0, 0), UNKNOWN);
        x.pack(PACK, 3, 0);
        x.pack(STARVED, 4, 0);
        x.pack(HERETIC, 5, 2);
        due("20 to the first FRIDAY", x.nail(0, 0), 5);
        due("20 one DAY", x.nail(0, 1), 1);
        due("20 STARVED never", x.nail(1, 0), NONE);
        due("20 STARVED no DAYS", x.nail(1, 1), NONE);
        due("20 behind by its LAG", x.nail(2, 0), 0);
        x.forge(3, 17);
        due("20 what is FORGED counts not", x.nail(0, 0), 5);
        due("20 and stays", x.forge(3, 0), 17);
        x.day();
        due("20 a DAY later", x.nail(0, 0), 4);
        // f14 stands alone; f11 and FRIDAY 12 (and the next one, f13) hang together.
        write(x, "f14,f11,f13,f26,f25,f24");
        x.feasts();
        due("20 the longest: 11, 12 (FRIDAY), 13, 14", x.nail(0, 0), 10);
        due("20 four DAYS", x.nail(0, 1), 4);
        due("20 STARVED: 24, 25, 26", x.nail(1, 0), 23);
        due("20 STARVED three DAYS", x.nail(1, 1), 3);
        int[] outside = {LEAST, -1, 2, MOST};
        for (int what : outside) due("20 what " + what, x.nail(0, what), OUTSIDE);
        int[] unknown = {LEAST, -1, 3, MOST};
        for (int pack : unknown) due("20 pack " + pack, x.nail(pack, 2), UNKNOWN);
    }

    private static void promise21watch() {
        WolfCalendar x = new WolfCalendar();
        due("21 nobody", x.watch(0), UNKNOWN);
        x.pack(PACK, 3, 0);
        x.pack(STARVED, 3, 0);
        due("21 begins", x.watch(0), 0);
        x.seen(true);
        x.seen(false);
        due("21 kinds: none hunts on 210 and fasts on 211", x.fits(1), 0);
        int[] unknown = {LEAST, -1, 2, MOST};
        for (int pack : unknown) due("21 pack " + pack, x.watch(pack), UNKNOWN);
        due("21 refusals keep it", x.count(6), 2);
        due("21 begins again", x.watch(1), 2);
        due("21 what was SEEN is gone", x.count(6), 0);
        due("21 and again", x.watch(1), 0);
        for (int n = 0; n < 5; n++) x.day();
        x.watch(1);
        x.seen(false);
        due("21 from this DAY on: a FRIDAY", x.fits(1), 1 | 2 | 8 | 16);
    }

    private static void promise22seen() {
        WolfCalendar x = new WolfCalendar();
        x.pack(PACK, 3, 0);
        due("22 STATE", x.seen(true), STATE);
        due("22 STATE, false", x.seen(false), STATE);
        x.watch(0);
        for (int n = 1; n <= 8; n++) due("22 seen " + n, x.seen(n != 6), n);
        due("22 FULL", x.seen(true), FULL);
        due("22 eight", x.count(6), 8);
        due("22 all but STARVED", x.fits(1), 1 | 2 | 8 | 16);
        due("22 LAGS 0 and 7", x.fits(0), 1 | 1 << 7);
    }

    private static void promise23fits() {
        WolfCalendar x = new WolfCalendar();
        due("23 STATE", x.fits(0), STATE);
        due("23 STATE of kinds", x.fits(1), STATE);
        int[] outside = {LEAST, -1, 2, MOST};
        for (int what : outside) due("23 OUTSIDE first " + what, x.fits(what), OUTSIDE);
        x.pack(CUBS, 3, 2);
        x.watch(0);
        due("23 nothing SEEN: all LAGS", x.fits(0), 1023);
        due("23 nothing SEEN: all KINDS", x.fits(1), 31);
        x.seen(true);
        x.seen(false);
        // Hunted on 210 less LAG, fasted on 211 less LAG: 208 is a FRIDAY, LAG 3.
        due("23 LAGS", x.fits(0), 1 << 3);
        due("23 KINDS by its LAG of 2", x.fits(1), 0);
        x.forge(3, 4);
        due("23 by what is FORGED now: LAGS", x.fits(0), 1 | 1 << 7);
        due("23 by what is FORGED now: KINDS", x.fits(1), 1 | 2);
        x.forge(3, 6);
        due("23 KINDS that have the LAG", x.fits(1), 8 | 16);
        write(x, "f05");
        x.feasts();
        x.forge(3, 4);
        due("23 a FRIDAY that is a FEAST", x.fits(1), 1 | 2 | 4);
        write(x, "m11");
        x.feasts();
        // 210 is the first day of YEAR 7 (WEEKDAY 0); WEEKDAY 1 is 211.
        x.forge(3, 0);
        due("23 a FEAST", x.fits(1), 1 | 4);
        x.day();
        due("23 the DAY goes on, SEEN not", x.fits(1), 1 | 4);
        for (int what : outside) due("23 what " + what, x.fits(what), OUTSIDE);
    }

    private static void promise24years() {
        WolfCalendar x = new WolfCalendar();
        int[] badDays = {LEAST, -1, 0, 61, MOST};
        for (int days : badDays) due("24 days " + days, x.years(days, 1, 0), OUTSIDE);
        int[] badSeeds = {LEAST, -1};
        for (int seed : badSeeds) due("24 seed " + seed, x.years(1, seed, 0), OUTSIDE);
        int[] badWhats = {LEAST, -1, 2, MOST};
        for (int what : badWhats) due("24 what " + what, x.years(1, 1, what), OUTSIDE);
        // Seed 0: the next is 12345, by 65536 it is 0: three DRAWS, CELL and number by the next two.
        due("24 seed 0, one DAY", x.years(1, 0, 1), seedBehind(0, 3));
        // 12345 gives 1406932606, by 65536 21468, by 8 4: CELL 4; 654583775 gives 9988, by 30 28.
        due("24 that seed", seedBehind(0, 3), 654583775);
        x.pack(PACK, 4, 0);
        x.flock(8, 4);
        due("24 forged 28 spares the name 8", x.years(1, 0, 0), 0);
        x.name(0, 7);
        due("24 but not 7", x.years(1, 0, 0), 1);
        due("24 nothing changed", x.count(3) + x.count(4) + x.count(5), 0);
        x.day();
        due("24 those now, too", x.years(60, 77, 0), 1);
        due("24 the greatest seed", x.years(1, MOST, 1), 1043980748);
        due("24 sixty DAYS", x.years(60, 77, 1), seedBehindDays(77, 60));
    }

    private static long seedBehindDays(long seed, int days) {
        for (int n = 0; n < days; n++) {
            seed = seedBehind(seed, 1);
            if ((seed >> 16) % 8 == 0) seed = seedBehind(seed, 2);
        }
        return seed;
    }

    private static void promise25image() {
        WolfCalendar x = new WolfCalendar();
        due("25 image", x.image(), 0);
        x.day();
        x.day();
        due("25 the latest", x.image(), 2);
        x.day();
        due("25 goes on from the latest", x.restore(), 2);
        due("25 an image changes nothing", x.count(4), 2);
    }

    private static void promise26restore() {
        WolfCalendar x = new WolfCalendar();
        due("26 STATE", x.restore(), STATE);
        x.pack(PACK, 3, 0);
        x.pack(STARVED, 0, 0);
        x.flock(5, 3);
        x.flock(5, 0);
        x.flock(5, 6);
        x.move(1, 7);
        x.forge(2, 9);
        x.watch(1);
        x.seen(true);
        x.seen(true);
        x.day();
        due("26 image", x.image(), 1);
        long before = x.digest();
        for (int round = 0; round < 2; round++) {
            x.pack(PILGRIM, 7, 7);
            x.flock(6, 6);
            x.name(2, 8);
            x.move(2, 4);
            x.forge(2, 0);
            x.forge(3, 3);
            x.watch(2);
            x.seen(false);
            x.day();
            x.day();
            due("26 all differs", x.digest() == before ? 1 : 0, 0);
            due("26 eaten since", x.count(3), 4);
            due("26 restore", x.restore(), 1);
            due("26 all is as it was", x.digest() == before ? 1 : 0, 1);
        }
        due("26 a FLOCK that is gone", x.flockOf(3, 0), UNKNOWN);
        due("26 a PACK that is gone", x.about(2, 0), UNKNOWN);
        due("26 EATEN stays EATEN", x.flockOf(0, 3), 0);
        due("26 by whom", x.about(0, 6), 1);
        due("26 back among the living", x.flockOf(1, 2) + x.flockOf(2, 2), 0);
        due("26 NAME", x.flockOf(2, 0), 5);
        due("26 CELL", x.flockOf(2, 1), 6);
        due("26 SEEN", x.count(6), 2);
        due("26 SEEN of whom, and from when", x.fits(1), 31);
        due("26 a new PACK", x.pack(CUBS, 1, 1), 2);
        due("26 a new FLOCK", x.flock(1, 1), 3);
        due("26 lives", x.flockOf(3, 2), 0);
        promise26keepsNot();
    }

    /** FEASTS, THE PAGE and how often something was done go on as they are. */
    private static void promise26keepsNot() {
        WolfCalendar x = withFeasts("f01");
        x.flock(0, 0);
        x.pack(PACK, 4, 0);
        write(x, "f0");
        x.image();
        x.blank();
        x.watch(0);
        write(x, "f02,f03");
        x.feasts();
        x.graze(0, 1, 0);
        write(x, "m1111");
        x.restore();
        due("26 FEASTS stay", x.count(0), 2);
        due("26 THE PAGE stays", x.count(7), 5);
        due("26 read", x.count(8), 2);
        due("26 grazed", x.count(9), 1);
        due("26 SEEN has not begun", x.seen(true), STATE);
    }

    private static void promise27count() {
        WolfCalendar x = withFeasts("f01,f02,m34");
        x.pack(PACK, 3, 0);
        x.pack(PACK, 3, 0);
        for (int n = 0; n < 4; n++) x.flock(5, n == 3 ? 7 : 3);
        x.forge(0, 1);
        x.forge(7, 29);
        x.forge(4, 3);
        x.forge(4, 0);
        x.watch(0);
        x.seen(true);
        x.day();
        write(x, "f0000");
        x.graze(3, 2, 1);
        x.graze(3, 2, 0);
        x.graze(3, 9, 0);
        x.feasts();
        int[] want = {3, 2, 4, 2, 1, 2, 1, 5, 1, 2};
        for (int what = 0; what < want.length; what++) due("27 count(" + what + ")", x.count(what), want[what]);
        int[] outside = {LEAST, -1, 10, MOST};
        for (int what : outside) due("27 what " + what, x.count(what), OUTSIDE);
    }

    private static void promise28digest() {
        WolfCalendar x = new WolfCalendar();
        due("28 new", x.digest(), digestOf(x, ""));
        // 743, then 4 of the DAY, 8 CELLS, LOSS and 10 counts, all 0: 743 times 31 to the 23.
        long h = 743;
        for (int n = 0; n < 23; n++) h *= 31;
        due("28 new, by hand", x.digest(), h);
        write(x, "f0~ ");
        due("28 letters of the page", x.digest(), digestOf(x, "f0~ "));
        x.blank();
        write(x, "f02,m11,f29");
        x.feasts();
        x.forge(3, 11);
        x.pack(PILGRIM, 3, 4);
        x.pack(STARVED, 5, 0);
        x.pack(CUBS, 6, 0);
        for (int n = 0; n < 5; n++) x.flock(2 * n, n + 2);
        for (int n = 0; n < 12; n++) {
            due("28 on the way " + n, x.digest(), digestOf(x, ""));
            x.day();
        }
        x.watch(0);
        due("28 SEEN has begun", x.digest(), digestOf(x, ""));
        x.seen(true);
        x.seen(false);
        write(x, "f");
        due("28 SEEN", x.digest(), digestOf(x, "f"));
        due("28 changes nothing", x.digest(), digestOf(x, "f"));
    }

    public static void main(String[] args) {
        constants();
        promise01newObject();
        promise02letter();
        promise03blank();
        promise04fault();
        promise05feasts();
        promise06dayOf();
        promise07forge();
        promise08pack();
        promise09about();
        promise10as();
        promise11flock();
        promise12flockOf();
        promise13name();
        promise14move();
        promise15day();
        promise16loss();
        promise17falls();
        promise18safe();
        promise19graze();
        promise20nail();
        promise21watch();
        promise22seen();
        promise23fits();
        promise24years();
        promise25image();
        promise26restore();
        promise27count();
        promise28digest();
        close();
    }
}
