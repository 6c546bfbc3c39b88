import java.util.ArrayList;
import java.util.Arrays;
import java.util.HashSet;
import java.util.List;
import java.util.Set;
import java.util.regex.Pattern;

/**
 * The document once more, in another way and as plainly as it goes: texts, sets and lists, FEASTS found by
 * walking through the YEAR, every row of CELLS written out, a copy of all for each try. ModelTest holds the
 * program against it.
 */
final class PlainModel implements Cloneable {
    static final int NONE = -1, UNKNOWN = -101, OUTSIDE = -102, STATE = -103, FULL = -104;
    private static final String FEAST = "(f[0-2][0-9]|m[0-6][1-4])";
    private static final Pattern WHOLE = Pattern.compile(FEAST + "(," + FEAST + "){0,5}");

    private String page = "";
    private String[] feasts = {};
    private int reads;
    private int grazes;
    private int today;
    private List<int[]> packs = new ArrayList<>();
    private List<int[]> flocks = new ArrayList<>();
    private int[] forged = new int[8];
    private int watched = NONE;
    private int watchedFrom;
    private List<Boolean> sightings = new ArrayList<>();
    private PlainModel picture;

    private PlainModel twin() {
        PlainModel t = new PlainModel();
        t.feasts = feasts;
        t.page = page;
        t.reads = reads;
        t.grazes = grazes;
        t.today = today;
        for (int[] p : packs) t.packs.add(p.clone());
        for (int[] f : flocks) t.flocks.add(f.clone());
        t.forged = forged.clone();
        t.watched = watched;
        t.watchedFrom = watchedFrom;
        t.sightings = new ArrayList<>(sightings);
        t.picture = picture;
        return t;
    }

    private static boolean in(int x, int low, int high) {
        return low <= x && x <= high;
    }

    private Set<Integer> feastsOfYear(int year) {
        Set<Integer> days = new HashSet<>();
        for (String feast : feasts) {
            int first = feast.charAt(1) - '0', second = feast.charAt(2) - '0';
            if (feast.charAt(0) == 'f') {
                days.add(30 * year + 10 * first + second);
                continue;
            }
            int met = 0;
            for (int day = 30 * year; day < 30 * year + 30; day++) {
                if (day % 7 == first && ++met == second) days.add(day);
            }
        }
        return days;
    }

    private boolean feast(int day) {
        return feastsOfYear(day / 30).contains(day);
    }

    private int reading(int kind, int cell, int lag, int day) {
        int read = day + forged[cell] + 210;
        return kind == 3 || kind == 4 ? read - lag : read;
    }

    private boolean fasting(int kind, int read) {
        if (read % 7 == 5 && kind != 2) return true;
        if (feast(read) && kind != 1) return true;
        return kind == 4 && feast(read + 1);
    }

    private boolean eaten(int flock) {
        return flocks.get(flock)[2] != NONE;
    }

    private int prey(int pack) {
        int[] p = packs.get(pack);
        int read = reading(p[0], p[1], p[2], today);
        if (fasting(p[0], read)) return NONE;
        int best = NONE, bestRank = Integer.MAX_VALUE;
        for (int f = 0; f < flocks.size(); f++) {
            int[] flock = flocks.get(f);
            int away = flock[1] - p[1];
            if (eaten(f) || Math.abs(away) > 1 || flock[0] == read % 30 % 10) continue;
            int rank = (away == 0 ? 0 : away < 0 ? 100 : 200) + f;
            if (rank < bestRank) {
                bestRank = rank;
                best = f;
            }
        }
        return best;
    }

    int letter(int code) {
        if (!in(code, 32, 126)) return OUTSIDE;
        if (page.length() == 24) return FULL;
        page += (char) code;
        return page.length();
    }

    int blank() {
        int had = page.length();
        page = "";
        return had;
    }

    /** A prefix can stand if filling it up with the letters of some FEASTS gives a whole text. */
    private static boolean canStand(String prefix) {
        String[] fillings = {"", "f00", "00", "0", "11", "1"};
        for (String filling : fillings) {
            if (WHOLE.matcher(prefix + filling).matches()) return true;
        }
        return prefix.isEmpty();
    }

    int fault() {
        for (int n = 1; n <= page.length(); n++) {
            if (!canStand(page.substring(0, n))) return n - 1;
        }
        return page.length();
    }

    int feasts() {
        if (!WHOLE.matcher(page).matches()) return STATE;
        feasts = page.split(",");
        page = "";
        reads++;
        return feasts.length;
    }

    int dayOf(int day, int what) {
        if (!in(day, 0, 9999)) return UNKNOWN;
        if (!in(what, 0, 3)) return OUTSIDE;
        return new int[] {day % 7, day % 30 % 10, feast(day) ? 1 : 0, day / 30}[what];
    }

    int forge(int cell, int days) {
        if (!in(cell, 0, 7)) return UNKNOWN;
        if (!in(days, 0, 29)) return OUTSIDE;
        int was = forged[cell];
        forged[cell] = days;
        return was;
    }

    int pack(int kind, int cell, int lag) {
        if (!in(cell, 0, 7)) return UNKNOWN;
        if (!in(kind, 0, 4) || !in(lag, 0, 9)) return OUTSIDE;
        if (packs.size() == 4) return FULL;
        packs.add(new int[] {kind, cell, lag});
        return packs.size() - 1;
    }

    int about(int pack, int what) {
        if (!in(pack, 0, packs.size() - 1)) return UNKNOWN;
        if (!in(what, 0, 6)) return OUTSIDE;
        int[] p = packs.get(pack);
        if (what < 3) return p[what];
        int read = reading(p[0], p[1], p[2], today);
        if (what == 3) return read;
        if (what == 4) return fasting(p[0], read) ? 1 : 0;
        if (what == 5) return prey(pack);
        int number = 0;
        for (int[] flock : flocks) number += flock[2] == pack ? 1 : 0;
        return number;
    }

    int as(int pack, int kind) {
        if (!in(pack, 0, packs.size() - 1)) return UNKNOWN;
        if (!in(kind, 0, 4)) return OUTSIDE;
        int its = packs.get(pack)[0];
        List<Integer> such = Arrays.asList(0, its, its == 4 ? 3 : its);
        return such.contains(kind) ? pack : NONE;
    }

    int flock(int name, int cell) {
        if (!in(name, 0, 9)) return OUTSIDE;
        if (!in(cell, 0, 7)) return UNKNOWN;
        if (flocks.size() == 5) return FULL;
        flocks.add(new int[] {name, cell, NONE});
        return flocks.size() - 1;
    }

    int flockOf(int flock, int what) {
        if (!in(flock, 0, flocks.size() - 1)) return UNKNOWN;
        if (!in(what, 0, 3)) return OUTSIDE;
        int[] f = flocks.get(flock);
        return new int[] {f[0], f[1], f[2] != NONE ? 1 : 0, f[2]}[what];
    }

    private boolean unknownFlock(int flock) {
        return !in(flock, 0, flocks.size() - 1) || eaten(flock);
    }

    int name(int flock, int name) {
        if (unknownFlock(flock)) return UNKNOWN;
        if (!in(name, 0, 9)) return OUTSIDE;
        int was = flocks.get(flock)[0];
        flocks.get(flock)[0] = name;
        return was;
    }

    int move(int flock, int cell) {
        if (unknownFlock(flock) || !in(cell, 0, 7)) return UNKNOWN;
        int was = flocks.get(flock)[1];
        flocks.get(flock)[1] = cell;
        return was;
    }

    int day() {
        int bits = 0;
        for (int pack = 0; pack < packs.size(); pack++) {
            int f = prey(pack);
            if (f == NONE) continue;
            flocks.get(f)[2] = pack;
            bits += 1 << f;
        }
        today++;
        return bits;
    }

    private int eatenNumber() {
        int number = 0;
        for (int f = 0; f < flocks.size(); f++) number += eaten(f) ? 1 : 0;
        return number;
    }

    int loss(int days) {
        if (!in(days, 0, 60)) return OUTSIDE;
        PlainModel t = twin();
        int bits = 0;
        for (int n = 0; n < days; n++) bits |= t.day();
        return Integer.bitCount(bits);
    }

    int falls(int flock) {
        if (unknownFlock(flock)) return UNKNOWN;
        PlainModel t = twin();
        for (int n = 1; n <= 60; n++) {
            if ((t.day() >> flock & 1) == 1) return n;
        }
        return NONE;
    }

    int safe(int flock, int days) {
        if (unknownFlock(flock)) return UNKNOWN;
        if (!in(days, 1, 30)) return OUTSIDE;
        for (int name = 0; name < 10; name++) {
            PlainModel t = twin();
            t.name(flock, name);
            for (int n = 0; n < days; n++) t.day();
            if (!t.eaten(flock)) return name;
        }
        return NONE;
    }

    int graze(int flock, int days, int what) {
        if (unknownFlock(flock)) return UNKNOWN;
        if (!in(days, 1, 6) || !in(what, 0, 1)) return OUTSIDE;
        if (grazes == 60) return STATE;
        grazes++;
        int steps = (int) Math.round(Math.pow(3, days));
        int first = NONE, rows = 0;
        for (int row = 0; row < steps; row++) {
            int[] cells = walk(flocks.get(flock)[1], days, row);
            if (cells == null || !survives(flock, cells)) continue;
            rows++;
            if (first == NONE) first = cells[0];
        }
        return what == 0 ? first : rows;
    }

    /** Rows in their order: the digits of base 3, the first the greatest, tell each step. */
    private static int[] walk(int cell, int days, int row) {
        int[] cells = new int[days];
        for (int n = days - 1, rest = row; n >= 0; n--, rest /= 3) cells[n] = rest % 3 - 1;
        for (int n = 0; n < days; n++) {
            cell += cells[n];
            if (!in(cell, 0, 7)) return null;
            cells[n] = cell;
        }
        return cells;
    }

    private boolean survives(int flock, int[] cells) {
        PlainModel t = twin();
        for (int cell : cells) {
            t.move(flock, cell);
            t.day();
        }
        return !t.eaten(flock);
    }

    int nail(int pack, int what) {
        if (!in(pack, 0, packs.size() - 1)) return UNKNOWN;
        if (!in(what, 0, 1)) return OUTSIDE;
        int[] p = packs.get(pack);
        int number = NONE, most = NONE;
        for (int forging = 29; forging >= 0; forging--) {
            PlainModel t = twin();
            t.forged[p[1]] = forging;
            int run = 0;
            while (run < 30 && t.fasting(p[0], t.reading(p[0], p[1], p[2], today + run))) run++;
            if (run > 0 && run >= most) {
                number = forging;
                most = run;
            }
        }
        return what == 0 ? number : most;
    }

    int watch(int pack) {
        if (!in(pack, 0, packs.size() - 1)) return UNKNOWN;
        int had = sightings.size();
        sightings = new ArrayList<>();
        watched = pack;
        watchedFrom = today;
        return had;
    }

    int seen(boolean hunted) {
        if (watched == NONE) return STATE;
        if (sightings.size() == 8) return FULL;
        sightings.add(hunted);
        return sightings.size();
    }

    private boolean alike(int kind, int lag) {
        for (int n = 0; n < sightings.size(); n++) {
            boolean hunts = !fasting(kind, reading(kind, packs.get(watched)[1], lag, watchedFrom + n));
            if (hunts != sightings.get(n)) return false;
        }
        return true;
    }

    int fits(int what) {
        if (!in(what, 0, 1)) return OUTSIDE;
        if (watched == NONE) return STATE;
        int bits = 0;
        for (int n = 0; n < (what == 0 ? 10 : 5); n++) {
            boolean fit = what == 0 ? alike(3, n) : alike(n, packs.get(watched)[2]);
            bits += fit ? 1 << n : 0;
        }
        return bits;
    }

    int years(int days, int seed, int what) {
        if (!in(days, 1, 60) || seed < 0 || !in(what, 0, 1)) return OUTSIDE;
        PlainModel t = twin();
        int s = seed;
        for (int n = 0; n < days; n++) {
            s = drawn(s);
            if ((s >> 16) % 8 == 0) {
                s = drawn(s);
                int cell = (s >> 16) % 8;
                s = drawn(s);
                t.forged[cell] = (s >> 16) % 30;
            }
            t.day();
        }
        return what == 0 ? t.eatenNumber() : s;
    }

    /** By the wrap-around of int: the lowest 31 bits are the rest by 2 to the 31. */
    private static int drawn(int seed) {
        return 1103515245 * seed + 12345 & 0x7fffffff;
    }

    int image() {
        picture = twin();
        return today;
    }

    int restore() {
        if (picture == null) return STATE;
        PlainModel t = picture.twin();
        today = t.today;
        packs = t.packs;
        flocks = t.flocks;
        forged = t.forged;
        watched = t.watched;
        watchedFrom = t.watchedFrom;
        sightings = t.sightings;
        return today;
    }

    int count(int what) {
        if (!in(what, 0, 9)) return OUTSIDE;
        int forgedCells = 0;
        for (int days : forged) forgedCells += days != 0 ? 1 : 0;
        return new int[] {feasts.length, packs.size(), flocks.size(), eatenNumber(), today, forgedCells, sightings.size(),
            page.length(), reads, grazes}[what];
    }

    long digest() {
        List<Integer> told = new ArrayList<>();
        for (int what = 0; what < 4; what++) told.add(dayOf(today, what));
        for (int days : forged) told.add(days);
        for (int pack = 0; pack < packs.size(); pack++) {
            for (int what = 0; what < 7; what++) told.add(about(pack, what));
            for (int what = 0; what < 2; what++) told.add(nail(pack, what));
        }
        for (int flock = 0; flock < flocks.size(); flock++) {
            for (int what = 0; what < 4; what++) told.add(flockOf(flock, what));
            if (!eaten(flock)) told.add(falls(flock));
        }
        told.add(loss(30));
        if (watched != NONE) {
            told.add(fits(0));
            told.add(fits(1));
        }
        for (char letter : page.toCharArray()) told.add((int) letter);
        for (int what = 0; what < 10; what++) told.add(count(what));
        long h = 743;
        for (int number : told) h = 31 * h + number;
        return h;
    }
}
