import java.util.Random;

/** Runs of calls drawn from fixed seeds: each answer is the plain model's, and nothing but the document's own is thrown. */
public final class RandomRunsTest {
    private static final int CALLS = 512;
    private static final String[] NAMES = {"station", "rain", "pass", "phase", "product", "farm", "lend", "loading",
        "layer", "sell", "settle", "loss", "complain", "day", "filled", "onset", "index", "rate", "priced", "cover",
        "dueAnew", "told", "books"};
    private static final int[] ODD = {-1, Integer.MIN_VALUE, Integer.MAX_VALUE, 20, 61, 1200, 10000, 100000};
    private static final int[] TENTHS = {0, 5, 9, 10, 11, 40, 66, 67, 68, 99, 100, 101, 150, 200, 300, 2000};
    private static final long INDEX = Long.MIN_VALUE;
    private static final long ARGUMENT = INDEX + 1;
    private static final long STATE = INDEX + 2;
    private static final long OTHER = INDEX + 3;

    private final Random random;
    private final RainIndex program = new RainIndex();
    private final PlainModel model = new PlainModel();
    private final int[] seen = new int[NAMES.length];
    private int made = 0;
    private int wet;

    private RandomRunsTest(long seed) {
        random = new Random(seed);
        wet = 1 + random.nextInt(6);
    }

    public static void main(String[] args) {
        int[] answered = new int[NAMES.length];
        for (long seed = 1; seed <= 600; seed++) {
            RandomRunsTest run = new RandomRunsTest(seed);
            run.grow(seed);
            for (int i = 0; i < NAMES.length; i++) {
                answered[i] += run.seen[i];
            }
        }
        for (long seed = 1; seed <= 40; seed++) {
            new RandomRunsTest(seed).goOnBehindTheLimit();
        }
        for (int i = 0; i < NAMES.length; i++) {
            if (answered[i] < 300) {
                Check.fail(NAMES[i] + " answered but " + answered[i] + " times: the runs test too little of it");
            }
        }
        Check.report("RandomRunsTest");
    }

    /** A run as one would make it: stations, products and farms first, then season by season. */
    private void grow(long seed) {
        for (int i = 1 + random.nextInt(6); i > 0; i--) {
            both(seed, 0, random.nextInt(10), random.nextInt(10));
        }
        for (int i = 1 + random.nextInt(7); i > 0; i--) {
            drawUp(seed);
        }
        for (int i = 1 + random.nextInt(17); i > 0; i--) {
            both(seed, 5, random.nextInt(10), random.nextInt(10));
        }
        int seasonsTold = 2 + random.nextInt(4);
        for (int season = random.nextInt(2); season <= 19 && made < CALLS; season++) {
            sellSeason(seed, season);
            toDay(seed, 60 * season + 30 + random.nextInt(29));
            if (season <= seasonsTold) {
                tellSeason(seed, season);
            }
            some(seed, 6, season);
            toDay(seed, 60 * season + (random.nextInt(4) == 0 ? 59 : 60 + random.nextInt(20)));
            if (random.nextInt(3) == 0) {
                both(seed, 8, random.nextInt(3000), random.nextInt(3000));
            }
            hearAndSettle(seed, random.nextInt(4) == 0 ? Math.max(0, season - 1) : season);
            some(seed, 15, season);
        }
        while (made < CALLS) {
            some(seed, 1, random.nextInt(20));
        }
    }

    private void sellSeason(long seed, int season) {
        int[] ahead = {31, 30, 29, 1, 1, 10, 20, 0};
        toDay(seed, 60 * season - ahead[random.nextInt(ahead.length)]);
        for (int i = random.nextInt(12); i > 0; i--) {
            both(seed, 9, farm(), product(), 1 + random.nextInt(2000), season);
        }
        if (random.nextInt(2) == 0) {
            both(seed, 6, farm(), 1 + random.nextInt(random.nextInt(8) == 0 ? 9999 : 900));
        }
    }

    private void hearAndSettle(long seed, int season) {
        for (int i = random.nextInt(4); i > 0; i--) {
            both(seed, 11, farm(), season, loss());
        }
        both(seed, 10, season);
        int settledOn = program.day();
        for (int i = random.nextInt(30); i > 0; i--) {
            if (random.nextInt(3) == 0) {
                both(seed, 11, farm(), season, loss());
            }
            both(seed, 12, farm(), season);
        }
        both(seed, 1, station(), Math.min(60 * season + random.nextInt(60), program.day()), tenths());
        both(seed, 20, cover());
        if (random.nextInt(4) == 0) {
            toDay(seed, settledOn + 20 + random.nextInt(2));
            both(seed, 12, farm(), season);
            both(seed, 12, farm(), season);
        }
        both(seed, 21, farm(), 1 + random.nextInt(4));
    }

    private int loss() {
        int[] often = {0, 29, 30, 31, 80, 100};
        return random.nextBoolean() ? random.nextInt(101) : often[random.nextInt(often.length)];
    }

    /** One of so many, now and then one more than there is. */
    private int oneOf(int count) {
        return random.nextInt(25) == 0 ? count : random.nextInt(Math.max(count, 1));
    }

    private int station() {
        return oneOf(seen[0]);
    }

    private int product() {
        return oneOf(seen[4]);
    }

    private int farm() {
        return oneOf(seen[5]);
    }

    private int cover() {
        return oneOf(seen[9]);
    }

    private void drawUp(long seed) {
        for (int i = 1 + random.nextInt(3); i > 0; i--) {
            boolean isDry = random.nextBoolean();
            int less = random.nextInt(isDry ? 6 : 200);
            int more = less + 1 + random.nextInt(isDry ? 12 : 900);
            both(seed, 3, 1 + random.nextInt(30), isDry ? 1 : 0, isDry ? less : more, isDry ? more : less,
                    1 + random.nextInt(100));
        }
        both(seed, 4, random.nextInt(2));
    }

    private void toDay(long seed, int day) {
        while (program.day() < day && program.day() < 1199 && made < CALLS) {
            both(seed, 2, Math.min(60, Math.min(day, 1199) - program.day()));
        }
    }

    private void tellSeason(long seed, int season) {
        int station = station();
        for (int i = random.nextInt(4); i > 0; i--) {
            both(seed, 1, station, 60 * season + random.nextInt(8), 60 + random.nextInt(90));
        }
        for (int day = random.nextInt(6); day < 60; day += 1 + random.nextInt(wet + 3)) {
            both(seed, 1, random.nextInt(3) == 0 ? station() : station, 60 * season + day, tenths());
        }
    }

    private int tenths() {
        return random.nextInt(4) == 0 ? random.nextInt(2001) : TENTHS[random.nextInt(TENTHS.length)];
    }

    /** So many calls of any kind, some of them with arguments that no caller should give. */
    private void some(long seed, int calls, int season) {
        for (int i = 0; i < calls; i++) {
            int call = random.nextInt(3) == 0 ? random.nextInt(NAMES.length) : 12 + random.nextInt(NAMES.length - 12);
            if (call == 2 && random.nextInt(4) != 0) {
                continue;
            }
            int[] a = arguments(call, season);
            if (random.nextInt(10) == 0) {
                a[random.nextInt(a.length)] = ODD[random.nextInt(ODD.length)];
            }
            both(seed, call, a);
        }
    }

    private int[] arguments(int call, int season) {
        int near = Math.max(0, Math.min(19, season + random.nextInt(4) - 2));
        int day = Math.max(0, Math.min(1199, program.day() - random.nextInt(130)));
        switch (call) {
            case 1: return new int[] {station(), day, tenths()};
            case 2: return new int[] {1 + random.nextInt(9)};
            case 3: return new int[] {random.nextInt(32), random.nextInt(2), random.nextInt(9), random.nextInt(9),
                random.nextInt(102)};
            case 4: return new int[] {random.nextInt(2)};
            case 6: return new int[] {farm(), 1 + random.nextInt(9999)};
            case 7: return new int[] {random.nextInt(202)};
            case 8: return new int[] {random.nextInt(9000), random.nextInt(9000)};
            case 9: return new int[] {farm(), product(), 1 + random.nextInt(2000), near};
            case 10: return new int[] {near};
            case 11: return new int[] {farm(), near, loss()};
            case 12: return new int[] {farm(), near};
            case 14: return new int[] {station(), day, random.nextInt(2)};
            case 15: return new int[] {station(), near, random.nextInt(2)};
            case 16: return new int[] {station(), near, product(), random.nextInt(3)};
            case 17: return new int[] {station(), near, product()};
            case 18: return new int[] {station(), product()};
            case 19: return new int[] {cover(), random.nextInt(10)};
            case 20: return new int[] {cover()};
            case 21: return new int[] {farm(), random.nextInt(5)};
            case 22: return new int[] {random.nextInt(5)};
            default: return new int[] {random.nextInt(10), random.nextInt(10)};
        }
    }

    private void both(long seed, int call, int... a) {
        if (made >= CALLS) {
            return;
        }
        made++;
        long got = program(call, a);
        long want = model(call, a);
        if (got > OTHER) {
            seen[call]++;
        }
        Check.same("run " + seed + ", call " + made + ": " + NAMES[call] + java.util.Arrays.toString(a), got, want);
    }

    private void goOnBehindTheLimit() {
        grow(0);
        for (int i = 0; i < 20000; i++) {
            int call = random.nextInt(NAMES.length);
            int[] a = arguments(call, program.day() / 60);
            if (random.nextInt(5) == 0) {
                a[random.nextInt(a.length)] = ODD[random.nextInt(ODD.length)];
            }
            if (program(call, a) == OTHER) {
                Check.fail("behind the limit: " + NAMES[call] + java.util.Arrays.toString(a) + " threw another one");
            }
        }
    }

    private long program(int call, int[] a) {
        try {
            return ofProgram(call, a);
        } catch (RuntimeException e) {
            return Check.isOwnThrow(e) ? codeOf(e) : OTHER;
        }
    }

    private long model(int call, int[] a) {
        try {
            return ofModel(call, a);
        } catch (RuntimeException e) {
            return codeOf(e);
        }
    }

    private static long codeOf(RuntimeException e) {
        if (e.getClass() == IndexOutOfBoundsException.class) {
            return INDEX;
        }
        if (e.getClass() == IllegalArgumentException.class) {
            return ARGUMENT;
        }
        return e.getClass() == IllegalStateException.class ? STATE : OTHER;
    }

    private int ofProgram(int call, int[] a) {
        switch (call) {
            case 0: return program.station(a[0], a[1]);
            case 1: return program.rain(a[0], a[1], a[2]);
            case 2: return program.pass(a[0]);
            case 3: return program.phase(a[0], a[1] == 1, a[2], a[3], a[4]);
            case 4: return program.product(a[0]);
            case 5: return program.farm(a[0], a[1]);
            case 6: return program.lend(a[0], a[1]);
            case 7: return program.loading(a[0]);
            case 8: return program.layer(a[0], a[1]);
            case 9: return program.sell(a[0], a[1], a[2], a[3]);
            case 10: return program.settle(a[0]);
            case 11: return program.loss(a[0], a[1], a[2]);
            case 12: return program.complain(a[0], a[1]);
            case 13: return program.day();
            case 14: return program.filled(a[0], a[1], a[2]);
            case 15: return program.onset(a[0], a[1], a[2]);
            case 16: return program.index(a[0], a[1], a[2], a[3]);
            case 17: return program.rate(a[0], a[1], a[2]);
            case 18: return program.priced(a[0], a[1]);
            case 19: return program.cover(a[0], a[1]);
            case 20: return program.dueAnew(a[0]);
            case 21: return program.told(a[0], a[1]);
            default: return program.books(a[0]);
        }
    }

    private int ofModel(int call, int[] a) {
        switch (call) {
            case 0: return model.station(a[0], a[1]);
            case 1: return model.rain(a[0], a[1], a[2]);
            case 2: return model.pass(a[0]);
            case 3: return model.phase(a[0], a[1] == 1, a[2], a[3], a[4]);
            case 4: return model.product(a[0]);
            case 5: return model.farm(a[0], a[1]);
            case 6: return model.lend(a[0], a[1]);
            case 7: return model.loading(a[0]);
            case 8: return model.layer(a[0], a[1]);
            case 9: return model.sell(a[0], a[1], a[2], a[3]);
            case 10: return model.settle(a[0]);
            case 11: return model.loss(a[0], a[1], a[2]);
            case 12: return model.complain(a[0], a[1]);
            case 13: return model.day();
            case 14: return model.filled(a[0], a[1], a[2]);
            case 15: return model.onset(a[0], a[1], a[2]);
            case 16: return model.index(a[0], a[1], a[2], a[3]);
            case 17: return model.rate(a[0], a[1], a[2]);
            case 18: return model.priced(a[0], a[1]);
            case 19: return model.cover(a[0], a[1]);
            case 20: return model.dueAnew(a[0]);
            case 21: return model.told(a[0], a[1]);
            default: return model.books(a[0]);
        }
    }
}
