/**
 * Wolves that keep the calendar: packs that observe all feasts, fast on Fridays, and never hunt a
 * flock on its name day. The promises are numbered in ../shared/DOC.md; each call of the face stands
 * below in the order of that page.
 *
 * <p>All rows are made once, in the constructor: what would be is tried out on a second World that is
 * written over each time, so no call makes an object.
 */
public final class WolfCalendar {
    public static final int NONE = -1, UNKNOWN = -101, OUTSIDE = -102, STATE = -103, FULL = -104;

    private static final int YEAR = 30;
    private static final int WEEK = 7;
    private static final int FRIDAY = 5;
    private static final int LAST_DAY = 9999;
    private static final int CELLS = 8;
    private static final int PACKS = 4;
    private static final int FLOCKS = 5;
    private static final int NAMES = 10;
    private static final int LAGS = 10;
    private static final int FORGED = 30;
    private static final int PAGE = 24;
    private static final int FEASTS = 6;
    /** WEEKDAYS and days of the YEAR fall together again after this many DAYS: 7 times 30. */
    private static final int ROUND = WEEK * YEAR;

    private static final int LOSS_DAYS = 60;
    private static final int FALLS_DAYS = 60;
    private static final int SAFE_DAYS = 30;
    private static final int GRAZE_DAYS = 6;
    private static final int GRAZE_TIMES = 60;
    private static final int NAIL_DAYS = 30;
    private static final int SEEN_DAYS = 8;
    private static final int YEARS_DAYS = 60;
    private static final int DIGEST_LOSS_DAYS = 30;

    private static final Kind[] KINDS = Kind.values();

    private final Page page = new Page();
    private final Feasts calendar = new Feasts();
    private final World now = new World();
    private final World kept = new World();
    private final World trial = new World();
    private final Draws draws = new Draws();
    private boolean imageKept;
    private int timesRead;
    private int timesGrazed;

    public WolfCalendar() {
    }

    // ---- feasts

    public int letter(int code) {
        if (code < 32 || code > 126) {
            return OUTSIDE;
        }
        if (!page.put((char) code)) {
            return FULL;
        }
        return page.length;
    }

    public int blank() {
        int had = page.length;
        page.clear();
        return had;
    }

    public int fault() {
        return page.firstFault();
    }

    public int feasts() {
        if (!page.isWhole()) {
            return STATE;
        }
        calendar.readFrom(page);
        page.clear();
        timesRead++;
        return calendar.number;
    }

    public int dayOf(int day, int what) {
        if (day < 0 || day > LAST_DAY) {
            return UNKNOWN;
        }
        switch (what) {
            case 0: return day % WEEK;
            case 1: return nameOfDay(day);
            case 2: return calendar.isFeast(day) ? 1 : 0;
            case 3: return day / YEAR;
            default: return OUTSIDE;
        }
    }

    public int forge(int cell, int days) {
        if (!isCell(cell)) {
            return UNKNOWN;
        }
        if (days < 0 || days >= FORGED) {
            return OUTSIDE;
        }
        int was = now.forged[cell];
        now.forged[cell] = days;
        return was;
    }

    // ---- packs, flocks

    public int pack(int kind, int cell, int lag) {
        if (!isCell(cell)) {
            return UNKNOWN;
        }
        if (!isKind(kind) || lag < 0 || lag >= LAGS) {
            return OUTSIDE;
        }
        if (now.packCount >= PACKS) {
            return FULL;
        }
        now.packs[now.packCount].become(KINDS[kind], cell, lag);
        return now.packCount++;
    }

    public int about(int pack, int what) {
        if (!now.hasPack(pack)) {
            return UNKNOWN;
        }
        Pack told = now.packs[pack];
        switch (what) {
            case 0: return told.kind.number;
            case 1: return told.cell;
            case 2: return told.lag;
            case 3: return now.readBy(told);
            case 4: return told.kind.fastsOn(now.readBy(told), calendar) ? 1 : 0;
            case 5: return now.preyOf(told, calendar);
            case 6: return now.eatenBy(pack);
            default: return OUTSIDE;
        }
    }

    public int as(int pack, int kind) {
        if (!now.hasPack(pack)) {
            return UNKNOWN;
        }
        if (!isKind(kind)) {
            return OUTSIDE;
        }
        return now.packs[pack].kind.isSuch(KINDS[kind]) ? pack : NONE;
    }

    public int flock(int name, int cell) {
        if (!isName(name)) {
            return OUTSIDE;
        }
        if (!isCell(cell)) {
            return UNKNOWN;
        }
        if (now.flockCount >= FLOCKS) {
            return FULL;
        }
        now.flocks[now.flockCount].become(name, cell);
        return now.flockCount++;
    }

    public int flockOf(int flock, int what) {
        if (!now.hasFlock(flock)) {
            return UNKNOWN;
        }
        Flock told = now.flocks[flock];
        switch (what) {
            case 0: return told.called;
            case 1: return told.cell;
            case 2: return now.isEaten(flock) ? 1 : 0;
            case 3: return now.isEaten(flock) ? told.eater : NONE;
            default: return OUTSIDE;
        }
    }

    public int name(int flock, int name) {
        if (!now.isGrazing(flock)) {
            return UNKNOWN;
        }
        if (!isName(name)) {
            return OUTSIDE;
        }
        int was = now.flocks[flock].called;
        now.flocks[flock].called = name;
        return was;
    }

    public int move(int flock, int cell) {
        if (!now.isGrazing(flock) || !isCell(cell)) {
            return UNKNOWN;
        }
        int was = now.flocks[flock].cell;
        now.flocks[flock].cell = cell;
        return was;
    }

    public int day() {
        return now.passDay(calendar);
    }

    // ---- what would be

    public int loss(int days) {
        if (days < 0 || days > LOSS_DAYS) {
            return OUTSIDE;
        }
        return lossIn(days);
    }

    public int falls(int flock) {
        if (!now.isGrazing(flock)) {
            return UNKNOWN;
        }
        trialFromNow();
        return trial.daysUntilEaten(flock, FALLS_DAYS, calendar);
    }

    public int safe(int flock, int days) {
        if (!now.isGrazing(flock)) {
            return UNKNOWN;
        }
        if (days < 1 || days > SAFE_DAYS) {
            return OUTSIDE;
        }
        for (int called = 0; called < NAMES; called++) {
            trialFromNow();
            trial.flocks[flock].called = called;
            if (trial.daysUntilEaten(flock, days, calendar) == NONE) {
                return called;
            }
        }
        return NONE;
    }

    public int graze(int flock, int days, int what) {
        if (!now.isGrazing(flock)) {
            return UNKNOWN;
        }
        if (days < 1 || days > GRAZE_DAYS || what < 0 || what > 1) {
            return OUTSIDE;
        }
        if (timesGrazed >= GRAZE_TIMES) {
            return STATE;
        }
        timesGrazed++;
        trialFromNow();
        return what == 0 ? firstCellOfGrazing(flock, days) : rowsBehind(flock, days);
    }

    public int nail(int pack, int what) {
        if (!now.hasPack(pack)) {
            return UNKNOWN;
        }
        if (what < 0 || what > 1) {
            return OUTSIDE;
        }
        int best = NONE;
        int most = 0;
        for (int forged = 0; forged < FORGED; forged++) {
            int days = fastsOnEnd(now.packs[pack], forged);
            if (days > most) {
                most = days;
                best = forged;
            }
        }
        if (best == NONE) {
            return NONE;
        }
        return what == 0 ? best : most;
    }

    // ---- told back

    public int watch(int pack) {
        if (!now.hasPack(pack)) {
            return UNKNOWN;
        }
        int had = now.sight.days;
        now.sight.beginWith(pack, now.today);
        return had;
    }

    public int seen(boolean hunted) {
        if (!now.sight.hasBegun()) {
            return STATE;
        }
        if (now.sight.days >= SEEN_DAYS) {
            return FULL;
        }
        now.sight.put(hunted);
        return now.sight.days;
    }

    public int fits(int what) {
        if (what < 0 || what > 1) {
            return OUTSIDE;
        }
        if (!now.sight.hasBegun() || !now.hasPack(now.sight.pack)) {
            return STATE;
        }
        Pack watched = now.packs[now.sight.pack];
        return what == 0 ? fittingLags(watched) : fittingKinds(watched);
    }

    public int years(int days, int seed, int what) {
        if (days < 1 || days > YEARS_DAYS || seed < 0 || what < 0 || what > 1) {
            return OUTSIDE;
        }
        trialFromNow();
        draws.seed = seed;
        for (int passed = 0; passed < days; passed++) {
            if (draws.next() % 8 == 0) {
                int cell = draws.next() % CELLS;
                trial.forged[cell] = draws.next() % FORGED;
            }
            trial.passDay(calendar);
        }
        return what == 0 ? trial.eatenInAll() : (int) draws.seed;
    }

    // ---- what is told of all

    public int image() {
        kept.copyFrom(now);
        imageKept = true;
        return kept.today;
    }

    public int restore() {
        if (!imageKept) {
            return STATE;
        }
        now.copyFrom(kept);
        return now.today;
    }

    public int count(int what) {
        switch (what) {
            case 0: return calendar.number;
            case 1: return now.packCount;
            case 2: return now.flockCount;
            case 3: return now.eatenInAll();
            case 4: return now.today;
            case 5: return now.forgedCells();
            case 6: return now.sight.days;
            case 7: return page.length;
            case 8: return timesRead;
            case 9: return timesGrazed;
            default: return OUTSIDE;
        }
    }

    public long digest() {
        long h = 743;
        for (int what = 0; what <= 3; what++) {
            h = mixed(h, dayOf(now.today, what));
        }
        for (int cell = 0; cell < CELLS; cell++) {
            h = mixed(h, now.forged[cell]);
        }
        h = withPacks(h);
        h = withFlocks(h);
        h = mixed(h, lossIn(DIGEST_LOSS_DAYS));
        if (now.sight.hasBegun()) {
            h = mixed(mixed(h, fits(0)), fits(1));
        }
        for (int place = 0; place < page.length; place++) {
            h = mixed(h, page.letters[place]);
        }
        for (int what = 0; what <= 9; what++) {
            h = mixed(h, count(what));
        }
        return h;
    }

    // ---- behind the face

    private static boolean isCell(int cell) {
        return cell >= 0 && cell < CELLS;
    }

    private static boolean isName(int name) {
        return name >= 0 && name < NAMES;
    }

    private static boolean isKind(int kind) {
        return kind >= 0 && kind < KINDS.length;
    }

    private static int nameOfDay(int day) {
        return day % YEAR % 10;
    }

    private void trialFromNow() {
        trial.copyFrom(now);
    }

    private int lossIn(int days) {
        trialFromNow();
        for (int passed = 0; passed < days; passed++) {
            trial.passDay(calendar);
        }
        return trial.eatenInAll() - now.eatenInAll();
    }

    private int firstCellOfGrazing(int flock, int days) {
        int from = now.flocks[flock].cell;
        for (int cell = from - 1; cell <= from + 1; cell++) {
            trial.goBackTo(now.today, now.eaten);
            if (rowsThrough(flock, cell, days) > 0) {
                return cell;
            }
        }
        return NONE;
    }

    /** How many rows of CELLS bring a FLOCK of the trial through so many DAYS more. */
    private int rowsBehind(int flock, int days) {
        if (days <= 0) {
            return 1;
        }
        int day = trial.today;
        int eaten = trial.eaten;
        int from = trial.flocks[flock].cell;
        int rows = 0;
        for (int cell = from - 1; cell <= from + 1; cell++) {
            trial.goBackTo(day, eaten);
            rows += rowsThrough(flock, cell, days);
        }
        return rows;
    }

    /** How many of these rows have this CELL first; the trial is left at some later DAY. */
    private int rowsThrough(int flock, int cell, int days) {
        if (!isCell(cell)) {
            return 0;
        }
        trial.flocks[flock].cell = cell;
        trial.passDay(calendar);
        return trial.isEaten(flock) ? 0 : rowsBehind(flock, days - 1);
    }

    /** On how many DAYS from this one on a PACK would FAST, one behind the other. */
    private int fastsOnEnd(Pack pack, int forged) {
        for (int days = 0; days < NAIL_DAYS; days++) {
            int read = pack.kind.reads(now.today + days, forged, pack.lag);
            if (!pack.kind.fastsOn(read, calendar)) {
                return days;
            }
        }
        return NAIL_DAYS;
    }

    private int fittingLags(Pack watched) {
        int bits = 0;
        for (int lag = 0; lag < LAGS; lag++) {
            if (didJustSo(Kind.HERETIC, watched.cell, lag)) {
                bits |= 1 << lag;
            }
        }
        return bits;
    }

    private int fittingKinds(Pack watched) {
        int bits = 0;
        for (int kind = 0; kind < KINDS.length; kind++) {
            if (didJustSo(KINDS[kind], watched.cell, watched.lag)) {
                bits |= 1 << kind;
            }
        }
        return bits;
    }

    private boolean didJustSo(Kind kind, int cell, int lag) {
        for (int place = 0; place < now.sight.days; place++) {
            int read = kind.reads(now.sight.from + place, now.forged[cell], lag);
            if (kind.fastsOn(read, calendar) == now.sight.huntedAt(place)) {
                return false;
            }
        }
        return true;
    }

    private static long mixed(long h, long told) {
        return 31 * h + told;
    }

    private long withPacks(long h) {
        for (int pack = 0; pack < now.packCount; pack++) {
            for (int what = 0; what <= 6; what++) {
                h = mixed(h, about(pack, what));
            }
            h = mixed(mixed(h, nail(pack, 0)), nail(pack, 1));
        }
        return h;
    }

    private long withFlocks(long h) {
        for (int flock = 0; flock < now.flockCount; flock++) {
            for (int what = 0; what <= 3; what++) {
                h = mixed(h, flockOf(flock, what));
            }
            if (!now.isEaten(flock)) {
                trialFromNow();
                h = mixed(h, trial.daysUntilEaten(flock, FALLS_DAYS, calendar));
            }
        }
        return h;
    }

    // ---- the parts

    /** What a PACK can be; what a KIND keeps of the calendar and how it reads it. */
    private enum Kind {
        PACK(0, true, true, false, false),
        CUBS(1, true, false, false, false),
        STARVED(2, false, true, false, false),
        HERETIC(3, true, true, true, false),
        PILGRIM(4, true, true, true, true);

        private final int number;
        private final boolean keepsFridays;
        private final boolean keepsFeasts;
        private final boolean lagsBehind;
        private final boolean looksAhead;

        Kind(int number, boolean keepsFridays, boolean keepsFeasts, boolean lagsBehind, boolean looksAhead) {
            this.number = number;
            this.keepsFridays = keepsFridays;
            this.keepsFeasts = keepsFeasts;
            this.lagsBehind = lagsBehind;
            this.looksAhead = looksAhead;
        }

        boolean isSuch(Kind other) {
            return other == PACK || this == other || this == PILGRIM && other == HERETIC;
        }

        int reads(int day, int forged, int lag) {
            return day + forged + ROUND - (lagsBehind ? lag : 0);
        }

        boolean fastsOn(int read, Feasts feasts) {
            return keepsFridays && read % WEEK == FRIDAY
                || keepsFeasts && feasts.isFeast(read)
                || looksAhead && feasts.isFeast(read + 1);
        }
    }

    /** THE PAGE: letters that may become FEASTS. */
    private static final class Page {
        private final char[] letters = new char[PAGE];
        private int length;

        /** Whether there was room for it. */
        boolean put(char letter) {
            if (length >= letters.length) {
                return false;
            }
            letters[length] = letter;
            length++;
            return true;
        }

        void clear() {
            length = 0;
        }

        int firstFault() {
            for (int place = 0; place < length; place++) {
                if (!mayStand(place)) {
                    return place;
                }
            }
            return length;
        }

        boolean isWhole() {
            return length % 4 == 3 && firstFault() == length;
        }

        /** Whether some FEASTS have this letter at this place, those ahead of it being as they are. */
        private boolean mayStand(int place) {
            // The last of six FEASTS ends one letter short of a full PAGE, and nothing stands behind it.
            if (place >= 4 * FEASTS - 1) {
                return false;
            }
            char letter = letters[place];
            boolean stays = staysAt(place - place % 4);
            switch (place % 4) {
                case 0: return letter == 'f' || letter == 'm';
                case 1: return letter >= '0' && letter <= (stays ? '2' : '6');
                case 2: return letter >= (stays ? '0' : '1') && letter <= (stays ? '9' : '4');
                default: return letter == ',';
            }
        }

        boolean staysAt(int place) {
            return letters[place] == 'f';
        }

        int digitAt(int place) {
            return letters[place] - '0';
        }
    }

    /** The FEASTS that are kept, as marks on the DAYS of a whole ROUND, behind which they come again. */
    private static final class Feasts {
        private final boolean[] marks = new boolean[ROUND];
        private int number;

        boolean isFeast(int day) {
            return day >= 0 && marks[day % ROUND];
        }

        /** Asks for a whole page. */
        void readFrom(Page page) {
            number = (page.length + 1) / 4;
            for (int day = 0; day < ROUND; day++) {
                marks[day] = false;
            }
            for (int feast = 0; feast < number; feast++) {
                int place = 4 * feast;
                int first = page.digitAt(place + 1);
                int second = page.digitAt(place + 2);
                for (int yearsStart = 0; yearsStart < ROUND; yearsStart += YEAR) {
                    int within = page.staysAt(place)
                        ? 10 * first + second
                        : placeOfWeekday(yearsStart, first, second);
                    marks[yearsStart + within] = true;
                }
            }
        }

        private static int placeOfWeekday(int yearsStart, int weekday, int which) {
            return Math.floorMod(weekday - yearsStart, WEEK) + WEEK * (which - 1);
        }
    }

    /** A PACK's row; one that stands behind the count of PACKS is not in use. */
    private static final class Pack {
        private Kind kind = Kind.PACK;
        private int cell;
        private int lag;

        void become(Kind itsKind, int itsCell, int itsLag) {
            kind = itsKind;
            cell = itsCell;
            lag = itsLag;
        }
    }

    /** A FLOCK's row; its eater counts only while the world has it as EATEN. */
    private static final class Flock {
        private int called;
        private int cell;
        private int eater;

        void become(int itsName, int itsCell) {
            called = itsName;
            cell = itsCell;
        }

        void copyFrom(Flock other) {
            called = other.called;
            cell = other.cell;
            eater = other.eater;
        }
    }

    /** What is SEEN of one PACK, from one DAY on. */
    private static final class Sight {
        private int pack = NONE;
        private int from;
        private int days;
        private int hunts;

        boolean hasBegun() {
            return pack != NONE;
        }

        void beginWith(int itsPack, int today) {
            pack = itsPack;
            from = today;
            days = 0;
            hunts = 0;
        }

        void put(boolean hunted) {
            if (hunted) {
                hunts |= 1 << days;
            }
            days++;
        }

        boolean huntedAt(int place) {
            return (hunts >> place & 1) == 1;
        }

        void copyFrom(Sight other) {
            pack = other.pack;
            from = other.from;
            days = other.days;
            hunts = other.hunts;
        }
    }

    /** All that an IMAGE keeps, and that goes on from DAY to DAY. */
    private static final class World {
        private final Pack[] packs = new Pack[PACKS];
        private final Flock[] flocks = new Flock[FLOCKS];
        private final int[] forged = new int[CELLS];
        private final Sight sight = new Sight();
        private int packCount;
        private int flockCount;
        private int today;
        /** Bits, so that a try can go back to an earlier DAY without a copy of the rows. */
        private int eaten;

        World() {
            for (int pack = 0; pack < PACKS; pack++) {
                packs[pack] = new Pack();
            }
            for (int flock = 0; flock < FLOCKS; flock++) {
                flocks[flock] = new Flock();
            }
        }

        void copyFrom(World other) {
            for (int pack = 0; pack < other.packCount; pack++) {
                Pack row = other.packs[pack];
                packs[pack].become(row.kind, row.cell, row.lag);
            }
            for (int flock = 0; flock < other.flockCount; flock++) {
                flocks[flock].copyFrom(other.flocks[flock]);
            }
            System.arraycopy(other.forged, 0, forged, 0, CELLS);
            sight.copyFrom(other.sight);
            packCount = other.packCount;
            flockCount = other.flockCount;
            goBackTo(other.today, other.eaten);
        }

        void goBackTo(int day, int eatenThen) {
            today = day;
            eaten = eatenThen;
        }

        boolean hasPack(int pack) {
            return pack >= 0 && pack < packCount;
        }

        boolean hasFlock(int flock) {
            return flock >= 0 && flock < flockCount;
        }

        boolean isEaten(int flock) {
            return (eaten >> flock & 1) == 1;
        }

        boolean isGrazing(int flock) {
            return hasFlock(flock) && !isEaten(flock);
        }

        int eatenInAll() {
            return Integer.bitCount(eaten);
        }

        int eatenBy(int pack) {
            int number = 0;
            for (int flock = 0; flock < flockCount; flock++) {
                if (isEaten(flock) && flocks[flock].eater == pack) {
                    number++;
                }
            }
            return number;
        }

        int forgedCells() {
            int number = 0;
            for (int cell = 0; cell < CELLS; cell++) {
                if (forged[cell] != 0) {
                    number++;
                }
            }
            return number;
        }

        int readBy(Pack pack) {
            return pack.kind.reads(today, forged[pack.cell], pack.lag);
        }

        /** Which FLOCK a PACK HUNTS as all stand now. */
        int preyOf(Pack pack, Feasts feasts) {
            int read = readBy(pack);
            if (pack.kind.fastsOn(read, feasts)) {
                return NONE;
            }
            int spared = nameOfDay(read);
            int found = firstIn(pack.cell, spared);
            if (found == NONE) {
                found = firstIn(pack.cell - 1, spared);
            }
            if (found == NONE) {
                found = firstIn(pack.cell + 1, spared);
            }
            return found;
        }

        private int firstIn(int cell, int spared) {
            for (int flock = 0; flock < flockCount; flock++) {
                Flock row = flocks[flock];
                if (!isEaten(flock) && row.cell == cell && row.called != spared) {
                    return flock;
                }
            }
            return NONE;
        }

        /** A DAY: which FLOCKS are EATEN on it, as bits. */
        int passDay(Feasts feasts) {
            int eatenBefore = eaten;
            for (int pack = 0; pack < packCount; pack++) {
                int prey = preyOf(packs[pack], feasts);
                if (prey != NONE) {
                    eaten |= 1 << prey;
                    flocks[prey].eater = pack;
                }
            }
            today++;
            return eaten & ~eatenBefore;
        }

        /** How many DAYS pass until a FLOCK is EATEN, the DAY on which it is among them; NONE: more. */
        int daysUntilEaten(int flock, int most, Feasts feasts) {
            for (int days = 1; days <= most; days++) {
                passDay(feasts);
                if (isEaten(flock)) {
                    return days;
                }
            }
            return NONE;
        }
    }

    /** The DRAWS from a SEED. */
    private static final class Draws {
        private long seed;

        /** The DRAW before its rest is taken; never less than 0, as no SEED is. */
        int next() {
            seed = (1103515245L * seed + 12345L) % 2147483648L;
            return (int) (seed / 65536L);
        }
    }
}
