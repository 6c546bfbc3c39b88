import java.lang.reflect.InvocationTargetException;
import java.lang.reflect.Method;
import java.lang.reflect.Modifier;
import java.util.Map;
import java.util.TreeMap;

/** What the tests by hand share: each answer is held against the one that is due, and the wrong ones are counted. */
abstract class Asking {
    static final int NONE = -1, UNKNOWN = -101, OUTSIDE = -102, STATE = -103, FULL = -104;
    static final int LEAST = Integer.MIN_VALUE, MOST = Integer.MAX_VALUE;
    static final int PACK = 0, CUBS = 1, STARVED = 2, HERETIC = 3, PILGRIM = 4;
    static final int[] KINDS = {PACK, CUBS, STARVED, HERETIC, PILGRIM};
    static final String SIX = "f00,f01,f02,f03,f04,f06";

    private static String running = "";
    private static int wrong = 0;
    private static int asked = 0;

    static void due(String call, long got, long want) {
        asked++;
        if (got != want) {
            wrong++;
            System.out.println(running + call + " answered " + got + ", due is " + want);
        }
    }

    static void due(String call, boolean right) {
        due(call, right ? 1 : 0, 1);
    }

    static void write(WolfCalendar x, String text) {
        for (int i = 0; i < text.length(); i++) {
            x.letter(text.charAt(i));
        }
    }

    static WolfCalendar withFeasts(String text) {
        WolfCalendar x = new WolfCalendar();
        write(x, text);
        x.feasts();
        return x;
    }

    static void days(WolfCalendar x, int number) {
        for (int n = 0; n < number; n++) x.day();
    }

    /** The digest as the document puts it together, from the other calls. */
    static long digestOf(WolfCalendar x, String page) {
        long h = 743;
        int today = x.count(4);
        for (int what = 0; what <= 3; what++) h = 31 * h + x.dayOf(today, what);
        for (int cell = 0; cell < 8; cell++) {
            int forged = x.forge(cell, 0);
            x.forge(cell, forged);
            h = 31 * h + forged;
        }
        for (int pack = 0; pack < x.count(1); pack++) {
            for (int what = 0; what <= 6; what++) h = 31 * h + x.about(pack, what);
            for (int what = 0; what <= 1; what++) h = 31 * h + x.nail(pack, what);
        }
        for (int flock = 0; flock < x.count(2); flock++) {
            for (int what = 0; what <= 3; what++) h = 31 * h + x.flockOf(flock, what);
            if (x.flockOf(flock, 2) == 0) h = 31 * h + x.falls(flock);
        }
        h = 31 * h + x.loss(30);
        if (x.fits(0) != STATE) h = 31 * (31 * h + x.fits(0)) + x.fits(1);
        for (int i = 0; i < page.length(); i++) h = 31 * h + page.charAt(i);
        for (int what = 0; what <= 9; what++) h = 31 * h + x.count(what);
        return h;
    }

    /** The SEED behind so many DRAWS, by the document's words. */
    static long seedBehind(long seed, int draws) {
        for (int n = 0; n < draws; n++) seed = (1103515245L * seed + 12345L) & 0x7fffffffL;
        return seed;
    }

    /** The DRAW, of so many, that is the nth behind a SEED. */
    static long drawBehind(long seed, int nth, int of) {
        return (seedBehind(seed, nth) >> 16) % of;
    }

    /** Runs each method that is named by where the document says it; found by its name, none can be forgotten. */
    static void runAll(Class<?> tests) {
        Map<String, Method> found = new TreeMap<>();
        for (Method method : tests.getDeclaredMethods()) {
            boolean plain = Modifier.isStatic(method.getModifiers()) && method.getParameterCount() == 0;
            if (plain && method.getName().matches("(head|terms|promise)[0-9].*")) found.put(method.getName(), method);
        }
        if (found.isEmpty()) throw new IllegalStateException("no tests in " + tests.getName());
        for (Map.Entry<String, Method> test : found.entrySet()) {
            running = test.getKey() + ": ";
            int before = asked;
            try {
                test.getValue().setAccessible(true);
                test.getValue().invoke(null);
            } catch (InvocationTargetException | IllegalAccessException e) {
                e.printStackTrace(System.out);
                due("threw", false);
            }
            due("asked something", asked > before);
        }
        running = "";
        System.out.println(found.size() + " tests in " + tests.getName());
    }

    static void close() {
        System.out.println(wrong == 0 ? asked + " answers are as due" : wrong + " of " + asked + " answers are not as due");
        if (wrong != 0) System.exit(1);
    }
}
