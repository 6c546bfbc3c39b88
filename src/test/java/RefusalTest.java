import java.util.ArrayList;
import java.util.List;

/**
 * "Refusals, of several the first as told by each call: .. they change nothing." For each call every number that
 * it refuses is tried with every other, in three states of an object; what is due is the first that its promise
 * tells, and the object must go on just as one that was not asked.
 */
public final class RefusalTest extends Asking {
    private static final int[] CODES = {LEAST, -1, 0, 31, 127, 65536 + 102, MOST};
    private static final int[] NO_DAY = {LEAST, -1, 10000, MOST};
    private static final int[] NO_CELL = {LEAST, -1, 8, MOST};
    private static final int[] NO_KIND = {LEAST, -1, 5, MOST};
    private static final int[] NO_LAG_OR_NAME = {LEAST, -1, 10, MOST};
    private static final int[] NO_FORGED = {LEAST, -1, 30, MOST};

    /** How far an object has come: nothing was done, all is in between, all that can be full is. */
    private enum Kept { NEW, HALF, FULL }

    private interface Call {
        long on(WolfCalendar x);
    }

    private static WolfCalendar make(Kept kept) {
        if (kept == Kept.NEW) return new WolfCalendar();
        boolean full = kept == Kept.FULL;
        WolfCalendar x = withFeasts(full ? "f02,m11,f29,m64,f13,m31" : "f07,m11");
        for (int n = 0; n < packs(kept); n++) x.pack(full ? n + 1 : 4 * n, 2 * n, 3 * n);
        for (int n = 0; n < flocks(kept); n++) x.flock(2 * n, n);
        x.image();
        for (int cell = 0; cell < 8; cell++) if (full || cell == 3) x.forge(cell, 20 - cell);
        x.watch(packs(kept) - 1);
        for (int n = 0; n < (full ? 8 : 2); n++) x.seen(n != 1);
        write(x, full ? SIX + "x" : "f00,3");
        for (int n = 0; n < (full ? 60 : 2); n++) x.graze(0, 1, 0);
        x.day();
        return x;
    }

    private static int packs(Kept kept) {
        return kept == Kept.NEW ? 0 : kept == Kept.HALF ? 2 : 4;
    }

    private static int flocks(Kept kept) {
        return kept == Kept.NEW ? 0 : kept == Kept.HALF ? 3 : 5;
    }

    private static int[] noPack(Kept kept) {
        return new int[] {LEAST, -1, packs(kept), packs(kept) + 1, 4, MOST};
    }

    /** The numbers of no FLOCK, and, if they are asked for, of those that are EATEN. */
    private static int[] noFlock(Kept kept, boolean eatenToo) {
        List<Integer> numbers = new ArrayList<>(List.of(LEAST, -1, flocks(kept), flocks(kept) + 1, 5, 31, 32, 33, MOST));
        WolfCalendar x = make(kept);
        for (int n = 0; n < flocks(kept); n++) if (eatenToo && x.flockOf(n, 2) == 1) numbers.add(n);
        return numbers.stream().mapToInt(Integer::intValue).toArray();
    }

    private static int living(Kept kept) {
        WolfCalendar x = make(kept);
        for (int n = 0; n < flocks(kept); n++) if (x.flockOf(n, 2) == 0) return n;
        throw new IllegalStateException("none lives");
    }

    private static int[] with(int[] numbers, int... more) {
        int[] all = new int[numbers.length + more.length];
        System.arraycopy(numbers, 0, all, 0, numbers.length);
        System.arraycopy(more, 0, all, numbers.length, more.length);
        return all;
    }

    private static boolean has(int[] numbers, int number) {
        for (int n : numbers) if (n == number) return true;
        return false;
    }

    /** What an object answers from here on: all that a refused call could have changed shows in it. */
    private static List<Long> traceOf(WolfCalendar x) {
        List<Long> told = new ArrayList<>();
        told.add(x.digest());
        for (int day = 0; day < 60; day++) told.add((long) x.dayOf(day, 2));
        told.add((long) x.fault());
        told.add((long) x.seen(false));
        told.add((long) x.fits(0));
        told.add((long) x.letter('x'));
        told.add(x.digest());
        told.add((long) x.blank());
        told.add((long) x.feasts());
        told.add((long) x.pack(PACK, 3, 0));
        told.add((long) x.flock(5, 3));
        told.add((long) x.graze(x.count(2) - 1, 1, 1));
        told.add((long) x.day());
        told.add(x.digest());
        told.add((long) x.restore());
        told.add(x.digest());
        told.add((long) x.pack(PACK, 3, 0));
        told.add((long) x.flock(5, 3));
        told.add((long) x.watch(0));
        told.add((long) x.seen(true));
        told.add((long) x.day());
        told.add((long) x.image());
        told.add(x.digest());
        return told;
    }

    private static void refused(Kept kept, String told, long want, Call call) {
        WolfCalendar x = make(kept);
        due(kept + " " + told, call.on(x), want);
        due(kept + " " + told + " changes nothing", traceOf(x).equals(traceOf(make(kept))));
    }

    /** The three states are what they are told to be, so that nothing is refused for want of another reason. */
    private static void terms3states() {
        due("HALF: some are EATEN, some are not", make(Kept.HALF).count(3) > 0 && make(Kept.HALF).count(3) < 3);
        due("FULL: some are EATEN, some are not", make(Kept.FULL).count(3) > 0 && make(Kept.FULL).count(3) < 5);
        int[] half = {2, 2, 3, make(Kept.HALF).count(3), 1, 1, 2, 5, 1, 2};
        int[] full = {6, 4, 5, make(Kept.FULL).count(3), 1, 8, 8, 24, 1, 60};
        for (int what = 0; what < 10; what++) {
            due("NEW", make(Kept.NEW).count(what), 0);
            due("HALF", make(Kept.HALF).count(what), half[what]);
            due("FULL", make(Kept.FULL).count(what), full[what]);
        }
        for (Kept kept : Kept.values()) due("made alike", traceOf(make(kept)).equals(traceOf(make(kept))));
    }

    /** "OUTSIDE: code (32 to 126); FULL: above 24." */
    private static void promise02letter() {
        for (Kept kept : Kept.values()) {
            for (int code : CODES) refused(kept, "letter(" + code + ")", OUTSIDE, x -> x.letter(code));
        }
        int[] right = {32, 'f', 126};
        for (int code : right) refused(Kept.FULL, "letter(" + code + ")", FULL, x -> x.letter(code));
    }

    /** "STATE: they are none." */
    private static void promise05feasts() {
        for (Kept kept : Kept.values()) refused(kept, "feasts()", STATE, WolfCalendar::feasts);
    }

    /** "UNKNOWN: day (0 to 9999); OUTSIDE." */
    private static void promise06dayOf() {
        int[] noWhat = {LEAST, -1, 4, MOST};
        for (Kept kept : Kept.values()) {
            for (int day : with(NO_DAY, 0, 9999)) {
                for (int what : with(noWhat, 0, 3)) {
                    if (!has(NO_DAY, day) && !has(noWhat, what)) continue;
                    refused(kept, "dayOf(" + day + ", " + what + ")", has(NO_DAY, day) ? UNKNOWN : OUTSIDE, x -> x.dayOf(day, what));
                }
            }
        }
    }

    /** "UNKNOWN; OUTSIDE: days (0 to 29)." */
    private static void promise07forge() {
        for (Kept kept : Kept.values()) {
            for (int cell : with(NO_CELL, 0, 7)) {
                for (int days : with(NO_FORGED, 0, 29)) {
                    if (!has(NO_CELL, cell) && !has(NO_FORGED, days)) continue;
                    refused(kept, "forge(" + cell + ", " + days + ")", has(NO_CELL, cell) ? UNKNOWN : OUTSIDE, x -> x.forge(cell, days));
                }
            }
        }
    }

    /** "UNKNOWN: cell; OUTSIDE: kind, lag; FULL." */
    private static void promise08pack() {
        for (Kept kept : Kept.values()) {
            for (int kind : with(NO_KIND, 0, 4)) {
                for (int cell : with(NO_CELL, 0, 7)) {
                    for (int lag : with(NO_LAG_OR_NAME, 0, 9)) packs(kept, kind, cell, lag);
                }
            }
        }
    }

    private static void packs(Kept kept, int kind, int cell, int lag) {
        boolean outside = has(NO_KIND, kind) || has(NO_LAG_OR_NAME, lag);
        if (!has(NO_CELL, cell) && !outside && kept != Kept.FULL) return;
        int want = has(NO_CELL, cell) ? UNKNOWN : outside ? OUTSIDE : FULL;
        refused(kept, "pack(" + kind + ", " + cell + ", " + lag + ")", want, x -> x.pack(kind, cell, lag));
    }

    /** "UNKNOWN; OUTSIDE." */
    private static void promise09about() {
        int[] noWhat = {LEAST, -1, 7, MOST};
        for (Kept kept : Kept.values()) {
            for (int pack : noPack(kept)) {
                for (int what : with(noWhat, 0, 6)) refused(kept, "about(" + pack + ", " + what + ")", UNKNOWN, x -> x.about(pack, what));
            }
            for (int pack = 0; pack < packs(kept); pack++) {
                int its = pack;
                for (int what : noWhat) refused(kept, "about(" + its + ", " + what + ")", OUTSIDE, x -> x.about(its, what));
            }
        }
    }

    /** "UNKNOWN; OUTSIDE." */
    private static void promise10as() {
        for (Kept kept : Kept.values()) {
            for (int pack : noPack(kept)) {
                for (int kind : with(NO_KIND, 0, 4)) refused(kept, "as(" + pack + ", " + kind + ")", UNKNOWN, x -> x.as(pack, kind));
            }
            for (int pack = 0; pack < packs(kept); pack++) {
                int its = pack;
                for (int kind : NO_KIND) refused(kept, "as(" + its + ", " + kind + ")", OUTSIDE, x -> x.as(its, kind));
            }
        }
    }

    /** "OUTSIDE: name; UNKNOWN: cell; FULL." */
    private static void promise11flock() {
        for (Kept kept : Kept.values()) {
            for (int name : with(NO_LAG_OR_NAME, 0, 9)) {
                for (int cell : with(NO_CELL, 0, 7)) {
                    boolean outside = has(NO_LAG_OR_NAME, name);
                    if (!outside && !has(NO_CELL, cell) && kept != Kept.FULL) continue;
                    int want = outside ? OUTSIDE : has(NO_CELL, cell) ? UNKNOWN : FULL;
                    refused(kept, "flock(" + name + ", " + cell + ")", want, x -> x.flock(name, cell));
                }
            }
        }
    }

    /** "UNKNOWN; OUTSIDE.": here what is EATEN is told, so only its what is refused. */
    private static void promise12flockOf() {
        int[] noWhat = {LEAST, -1, 4, MOST};
        for (Kept kept : Kept.values()) {
            for (int flock : noFlock(kept, false)) {
                for (int what : with(noWhat, 0, 3)) {
                    refused(kept, "flockOf(" + flock + ", " + what + ")", UNKNOWN, x -> x.flockOf(flock, what));
                }
            }
            for (int flock = 0; flock < flocks(kept); flock++) {
                int its = flock;
                for (int what : noWhat) refused(kept, "flockOf(" + its + ", " + what + ")", OUTSIDE, x -> x.flockOf(its, what));
            }
        }
    }

    /** "UNKNOWN; OUTSIDE: name." */
    private static void promise13name() {
        for (Kept kept : Kept.values()) {
            for (int flock : noFlock(kept, true)) {
                for (int name : with(NO_LAG_OR_NAME, 0, 9)) {
                    refused(kept, "name(" + flock + ", " + name + ")", UNKNOWN, x -> x.name(flock, name));
                }
            }
            if (kept == Kept.NEW) continue;
            int lives = living(kept);
            for (int name : NO_LAG_OR_NAME) refused(kept, "name(" + lives + ", " + name + ")", OUTSIDE, x -> x.name(lives, name));
        }
    }

    /** "UNKNOWN: flock, cell." */
    private static void promise14move() {
        for (Kept kept : Kept.values()) {
            for (int flock : noFlock(kept, true)) {
                for (int cell : with(NO_CELL, 0, 7)) {
                    refused(kept, "move(" + flock + ", " + cell + ")", UNKNOWN, x -> x.move(flock, cell));
                }
            }
            if (kept == Kept.NEW) continue;
            int lives = living(kept);
            for (int cell : NO_CELL) refused(kept, "move(" + lives + ", " + cell + ")", UNKNOWN, x -> x.move(lives, cell));
        }
    }

    /** "OUTSIDE.": LOSS in 0 to 60 DAYS. */
    private static void promise16loss() {
        int[] noDays = {LEAST, -1, 61, MOST};
        for (Kept kept : Kept.values()) {
            for (int days : noDays) refused(kept, "loss(" + days + ")", OUTSIDE, x -> x.loss(days));
        }
    }

    /** "UNKNOWN." */
    private static void promise17falls() {
        for (Kept kept : Kept.values()) {
            for (int flock : noFlock(kept, true)) refused(kept, "falls(" + flock + ")", UNKNOWN, x -> x.falls(flock));
        }
    }

    /** "UNKNOWN; OUTSIDE: days." */
    private static void promise18safe() {
        int[] noDays = {LEAST, -1, 0, 31, MOST};
        for (Kept kept : Kept.values()) {
            for (int flock : noFlock(kept, true)) {
                for (int days : with(noDays, 1, 30)) refused(kept, "safe(" + flock + ", " + days + ")", UNKNOWN, x -> x.safe(flock, days));
            }
            if (kept == Kept.NEW) continue;
            int lives = living(kept);
            for (int days : noDays) refused(kept, "safe(" + lives + ", " + days + ")", OUTSIDE, x -> x.safe(lives, days));
        }
    }

    /** "UNKNOWN; OUTSIDE: days, what; STATE: graze() was done 60 times." */
    private static void promise19graze() {
        int[] noDays = {LEAST, -1, 0, 7, MOST};
        int[] noWhat = {LEAST, -1, 2, MOST};
        for (Kept kept : Kept.values()) {
            int[] unknown = noFlock(kept, true);
            for (int flock : kept == Kept.NEW ? unknown : with(unknown, living(kept))) {
                for (int days : with(noDays, 1, 6)) {
                    for (int what : with(noWhat, 0, 1)) {
                        boolean outside = has(noDays, days) || has(noWhat, what);
                        if (!has(unknown, flock) && !outside && kept != Kept.FULL) continue;
                        int want = has(unknown, flock) ? UNKNOWN : outside ? OUTSIDE : STATE;
                        refused(kept, "graze(" + flock + ", " + days + ", " + what + ")", want, x -> x.graze(flock, days, what));
                    }
                }
            }
        }
    }

    /** "UNKNOWN; OUTSIDE." */
    private static void promise20nail() {
        int[] noWhat = {LEAST, -1, 2, MOST};
        for (Kept kept : Kept.values()) {
            for (int pack : noPack(kept)) {
                for (int what : with(noWhat, 0, 1)) refused(kept, "nail(" + pack + ", " + what + ")", UNKNOWN, x -> x.nail(pack, what));
            }
            for (int pack = 0; pack < packs(kept); pack++) {
                int its = pack;
                for (int what : noWhat) refused(kept, "nail(" + its + ", " + what + ")", OUTSIDE, x -> x.nail(its, what));
            }
        }
    }

    /** "UNKNOWN." */
    private static void promise21watch() {
        for (Kept kept : Kept.values()) {
            for (int pack : noPack(kept)) refused(kept, "watch(" + pack + ")", UNKNOWN, x -> x.watch(pack));
        }
    }

    /** "STATE: it has not begun; FULL." */
    private static void promise22seen() {
        boolean[] both = {true, false};
        for (boolean hunted : both) {
            refused(Kept.NEW, "seen(" + hunted + ")", STATE, x -> x.seen(hunted));
            refused(Kept.FULL, "seen(" + hunted + ")", FULL, x -> x.seen(hunted));
        }
    }

    /** "OUTSIDE; STATE: SEEN has not begun." */
    private static void promise23fits() {
        int[] noWhat = {LEAST, -1, 2, MOST};
        for (Kept kept : Kept.values()) {
            for (int what : noWhat) refused(kept, "fits(" + what + ")", OUTSIDE, x -> x.fits(what));
        }
        for (int what = 0; what <= 1; what++) {
            int its = what;
            refused(Kept.NEW, "fits(" + its + ")", STATE, x -> x.fits(its));
        }
    }

    /** "OUTSIDE: days (1 to 60), seed (0 at least), what." */
    private static void promise24years() {
        int[] noDays = {LEAST, -1, 0, 61, MOST};
        int[] noSeed = {LEAST, -1};
        int[] noWhat = {LEAST, -1, 2, MOST};
        for (Kept kept : Kept.values()) {
            for (int days : with(noDays, 1, 60)) {
                for (int seed : with(noSeed, 0, MOST)) {
                    for (int what : with(noWhat, 0, 1)) {
                        if (!has(noDays, days) && !has(noSeed, seed) && !has(noWhat, what)) continue;
                        refused(kept, "years(" + days + ", " + seed + ", " + what + ")", OUTSIDE, x -> x.years(days, seed, what));
                    }
                }
            }
        }
    }

    /** "STATE: none was kept." */
    private static void promise26restore() {
        refused(Kept.NEW, "restore()", STATE, WolfCalendar::restore);
    }

    /** "OUTSIDE." */
    private static void promise27count() {
        int[] noWhat = {LEAST, -1, 10, MOST};
        for (Kept kept : Kept.values()) {
            for (int what : noWhat) refused(kept, "count(" + what + ")", OUTSIDE, x -> x.count(what));
        }
    }

    /** Neither do those that only tell what is or would be change anything, when they answer. */
    private static void terms3tellingChangesNothing() {
        for (Kept kept : Kept.values()) {
            tells(kept, "fault()", WolfCalendar::fault);
            tells(kept, "digest()", WolfCalendar::digest);
            for (int what = 0; what <= 9; what++) {
                int its = what;
                tells(kept, "count(" + its + ")", x -> x.count(its));
                tells(kept, "dayOf(37, " + its + ")", x -> x.dayOf(37, its));
                tells(kept, "fits(" + its + ")", x -> x.fits(its));
                tells(kept, "years(60, 7, " + its + ")", x -> x.years(60, 7, its));
                tells(kept, "loss(" + 6 * its + ")", x -> x.loss(6 * its));
                for (int number = 0; number < 5; number++) tells(kept, number, its);
            }
        }
    }

    private static void tells(Kept kept, int number, int what) {
        tells(kept, "about(" + number + ", " + what + ")", x -> x.about(number, what));
        tells(kept, "as(" + number + ", " + what + ")", x -> x.as(number, what));
        tells(kept, "nail(" + number + ", " + what + ")", x -> x.nail(number, what));
        tells(kept, "flockOf(" + number + ", " + what + ")", x -> x.flockOf(number, what));
        tells(kept, "falls(" + number + ")", x -> x.falls(number));
        tells(kept, "safe(" + number + ", " + 3 * what + ")", x -> x.safe(number, 3 * what));
    }

    private static void tells(Kept kept, String told, Call call) {
        WolfCalendar x = make(kept);
        long first = call.on(x);
        due(kept + " " + told + " once more", call.on(x), first);
        due(kept + " " + told + " changes nothing", traceOf(x).equals(traceOf(make(kept))));
    }

    /** GRAZING counts how often it was done, and changes nothing beside. */
    private static void terms3grazingOnlyCounts() {
        WolfCalendar x = make(Kept.HALF);
        WolfCalendar y = make(Kept.HALF);
        int lives = living(Kept.HALF);
        due("six DAYS", x.graze(lives, 6, 1) >= 0);
        y.graze(lives, 1, 0);
        due("as with one DAY", traceOf(x).equals(traceOf(y)));
    }

    public static void main(String[] args) {
        runAll(RefusalTest.class);
        close();
    }
}
