import java.util.Random;

/** Runs of 512 calls by fixed seeds, each answer held against PlainModel, with the digest behind many calls. */
public final class ModelTest {
    private static final int RUNS = 300;
    private static final int CALLS = 512;
    private static final int[] ODD = {Integer.MIN_VALUE, -1000, -2, -1, 10, 30, 31, 61, 126, 127, 10000, Integer.MAX_VALUE};

    private final WolfCalendar program = new WolfCalendar();
    private final PlainModel model = new PlainModel();
    private final Random random;
    /** How lively a run is: where it is low, flocks live longer and more comes to be. */
    private final int daysWeight;
    private String call = "";
    private long got;
    private long want;

    private ModelTest(int seed) {
        random = new Random(seed);
        daysWeight = seed % 4;
    }

    /** A number of the range, now and then its edges' neighbours, or one far off. */
    private int pick(int low, int high) {
        int kind = random.nextInt(40);
        if (kind == 0) return low - 1;
        if (kind == 1) return high + 1;
        if (kind == 2) return ODD[random.nextInt(ODD.length)];
        if (kind == 3) return low;
        if (kind == 4) return high;
        return low + random.nextInt(high - low + 1);
    }

    private void told(String what, long itsGot, long itsWant) {
        call = what;
        got = itsGot;
        want = itsWant;
    }

    private void writeLetter(int code) {
        told("letter(" + code + ")", program.letter(code), model.letter(code));
    }

    private boolean writeFeasts() {
        StringBuilder text = new StringBuilder();
        int number = 1 + random.nextInt(6);
        for (int n = 0; n < number; n++) {
            if (n > 0) text.append(',');
            if (random.nextBoolean()) text.append('f').append(random.nextInt(3)).append(random.nextInt(10));
            else text.append('m').append(random.nextInt(7)).append(1 + random.nextInt(4));
        }
        if (random.nextInt(6) == 0) text.setCharAt(random.nextInt(text.length()), "fm0123456789, x".charAt(random.nextInt(15)));
        for (int i = 0; i < text.length(); i++) {
            writeLetter(text.charAt(i));
            if (got != want) return false;
        }
        return true;
    }

    private void step() {
        int a, b, c;
        switch (random.nextInt(32)) {
            case 0: writeLetter(random.nextInt(3) == 0 ? pick(32, 126) : "fm0123456789,".charAt(random.nextInt(13))); break;
            case 1: told("blank()", program.blank(), model.blank()); break;
            case 2: told("fault()", program.fault(), model.fault()); break;
            case 3: if (random.nextInt(3) == 0) writeFeasts(); break;
            case 4: told("feasts()", program.feasts(), model.feasts()); break;
            case 5: a = pick(0, 9999); b = pick(0, 3); told("dayOf(" + a + ", " + b + ")", program.dayOf(a, b), model.dayOf(a, b)); break;
            case 6: a = pick(0, 7); b = pick(0, 29); told("forge(" + a + ", " + b + ")", program.forge(a, b), model.forge(a, b)); break;
            case 7: a = pick(0, 4); b = pick(0, 7); c = pick(0, 9);
                if (random.nextInt(4) == 0) told("pack(" + a + ", " + b + ", " + c + ")", program.pack(a, b, c), model.pack(a, b, c)); break;
            case 8: case 9: a = pick(0, 3); b = pick(0, 6); told("about(" + a + ", " + b + ")", program.about(a, b), model.about(a, b)); break;
            case 10: a = pick(0, 3); b = pick(0, 4); told("as(" + a + ", " + b + ")", program.as(a, b), model.as(a, b)); break;
            case 11: a = pick(0, 9); b = pick(0, 7);
                if (random.nextInt(4) == 0) told("flock(" + a + ", " + b + ")", program.flock(a, b), model.flock(a, b)); break;
            case 12: a = pick(0, 4); b = pick(0, 3); told("flockOf(" + a + ", " + b + ")", program.flockOf(a, b), model.flockOf(a, b)); break;
            case 13: a = pick(0, 4); b = pick(0, 9); told("name(" + a + ", " + b + ")", program.name(a, b), model.name(a, b)); break;
            case 14: a = pick(0, 4); b = pick(0, 7); told("move(" + a + ", " + b + ")", program.move(a, b), model.move(a, b)); break;
            case 15: case 16: if (random.nextInt(4) <= daysWeight) told("day()", program.day(), model.day()); break;
            case 17: a = pick(0, 60); told("loss(" + a + ")", program.loss(a), model.loss(a)); break;
            case 18: a = pick(0, 4); told("falls(" + a + ")", program.falls(a), model.falls(a)); break;
            case 19: a = pick(0, 4); b = pick(1, 8); told("safe(" + a + ", " + b + ")", program.safe(a, b), model.safe(a, b)); break;
            case 20: a = pick(0, 4); b = pick(1, 30); told("safe(" + a + ", " + b + ")", program.safe(a, b), model.safe(a, b)); break;
            case 21: a = pick(0, 4); b = pick(1, 6); c = pick(0, 1);
                told("graze(" + a + ", " + b + ", " + c + ")", program.graze(a, b, c), model.graze(a, b, c)); break;
            case 22: a = pick(0, 3); b = pick(0, 1); told("nail(" + a + ", " + b + ")", program.nail(a, b), model.nail(a, b)); break;
            case 23: a = pick(0, 3); if (random.nextInt(3) == 0) told("watch(" + a + ")", program.watch(a), model.watch(a)); break;
            case 24: case 25: boolean hunted = random.nextInt(4) > 0; told("seen(" + hunted + ")", program.seen(hunted), model.seen(hunted)); break;
            case 26: a = pick(0, 1); told("fits(" + a + ")", program.fits(a), model.fits(a)); break;
            case 27: a = pick(1, 60); b = random.nextInt(); c = pick(0, 1); b = random.nextInt(9) == 0 ? b : b & Integer.MAX_VALUE;
                told("years(" + a + ", " + b + ", " + c + ")", program.years(a, b, c), model.years(a, b, c)); break;
            case 28: if (random.nextInt(4) == 0) told("image()", program.image(), model.image()); break;
            case 29: told("restore()", program.restore(), model.restore()); break;
            case 30: a = pick(0, 9); told("count(" + a + ")", program.count(a), model.count(a)); break;
            default: told("digest()", program.digest(), model.digest()); break;
        }
    }

    public static void main(String[] args) {
        int wrong = 0;
        for (int seed = 0; seed < RUNS; seed++) {
            ModelTest run = new ModelTest(seed);
            for (int n = 0; n < CALLS && run.got == run.want; n++) {
                run.step();
                if (run.got == run.want && n % 8 == 7) run.told("digest() behind it", run.program.digest(), run.model.digest());
            }
            if (run.got != run.want) {
                wrong++;
                System.out.println("seed " + seed + ": " + run.call + " answered " + run.got + ", the model " + run.want);
            }
        }
        System.out.println(wrong == 0 ? RUNS + " runs are as the model's" : wrong + " runs are not as the model's");
        if (wrong != 0) System.exit(1);
    }
}
