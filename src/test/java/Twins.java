/**
 * Two objects that were made alike: on one of them a call is made that must not change anything, and from then on both
 * are asked and told the same, up to the end of a season to come, and must answer alike. No object takes more than the
 * 512 calls that are promised, so that each probe has twins of its own.
 */
final class Twins {
    interface Making {
        RainIndex make();
    }

    interface On {
        int make(RainIndex x);
    }

    private static final String[] PROBES = {"what is told of farms and covers", "what the data say", "what is made",
        "what is added", "what is told on", "payouts", "sales"};
    private static final int MOST_CALLS = 330;
    private static final int[] DAYS = {0, 1, 53, 54, 59, 60, 113, 114, 119, 125, 126};

    private final RainIndex x;
    private final StringBuilder answers = new StringBuilder();
    private int calls = 0;

    private Twins(RainIndex x) {
        this.x = x;
    }

    static void refused(String what, Class<? extends RuntimeException> kind, Making scene, On call) {
        for (int probe = 0; probe < PROBES.length; probe++) {
            RainIndex refusing = scene.make();
            Check.refused(what, kind, () -> call.make(refusing));
            compare(what, probe, refusing, scene.make());
        }
    }

    /** The call answers, and changes nothing either. */
    static void onlyAsked(String what, Making scene, On call) {
        for (int probe = 0; probe < PROBES.length; probe++) {
            RainIndex asked = scene.make();
            call.make(asked);
            compare(what, probe, asked, scene.make());
        }
    }

    private static void compare(String what, int probe, RainIndex got, RainIndex want) {
        Check.alike(what + " changes nothing: " + PROBES[probe], new Twins(got).probe(probe),
                new Twins(want).probe(probe));
    }

    private String probe(int number) {
        switch (number) {
            case 0: askFarmsAndCovers(); break;
            case 1: askData(); break;
            case 2: makeProduct(); break;
            case 3: add(); break;
            case 4: tellOn(); break;
            case 5: settleAndComplain(); break;
            default: sellOn(); break;
        }
        if (calls > MOST_CALLS) {
            Check.fail("a probe makes " + calls + " calls");
        }
        return answers.toString();
    }

    private void note(Check.Call call) {
        calls++;
        answers.append(Check.answer(call)).append(' ');
    }

    private boolean isFarm(int farm) {
        calls++;
        return !Check.answer(() -> x.told(farm, 0)).startsWith("throws");
    }

    private boolean isCover(int cover) {
        calls++;
        return !Check.answer(() -> x.cover(cover, 0)).startsWith("throws");
    }

    private void askFarmsAndCovers() {
        note(x::day);
        for (int i = 0; i < 5; i++) {
            int what = i;
            note(() -> x.books(what));
        }
        for (int i = 0; i < 17 && isFarm(i); i++) {
            for (int k = 0; k < 5; k++) {
                int farm = i;
                int what = k;
                note(() -> x.told(farm, what));
            }
        }
        for (int i = 0; i < 61 && isCover(i); i++) {
            int cover = i;
            note(() -> x.dueAnew(cover));
            for (int k = 0; k < 10 && i < 8; k++) {
                int what = k;
                note(() -> x.cover(cover, what));
            }
        }
    }

    private void askData() {
        for (int i = 0; i < 6; i++) {
            for (int k = 0; k < DAYS.length * 2; k++) {
                int station = i;
                int kind = k;
                note(() -> x.filled(station, DAYS[kind / 2], kind % 2));
            }
            for (int k = 0; k < 6; k++) {
                int station = i;
                int kind = k;
                note(() -> x.onset(station, kind / 2, kind % 2));
                note(() -> x.priced(station, kind));
                note(() -> x.rate(station, 1, kind));
            }
        }
        for (int k = 0; k < 18; k++) {
            int kind = k;
            note(() -> x.index(0, 1, kind / 3, kind % 3));
        }
    }

    /** Of the phases that are drawn up, as they are. */
    private void makeProduct() {
        note(() -> x.product(RainIndex.FIRST));
        for (int i = 0; i < 7; i++) {
            for (int k = 0; k < 3; k++) {
                int product = i;
                int season = k;
                note(() -> x.rate(0, season, product));
                note(() -> x.index(0, 1, product, season));
            }
        }
        note(() -> x.product(RainIndex.FIRST));
    }

    private void add() {
        for (int i = 0; i < 4; i++) {
            note(() -> x.phase(30, true, 59, 60, 7));
        }
        note(() -> x.product(RainIndex.REVISED));
        for (int i = 0; i < 7; i++) {
            int product = i;
            note(() -> x.rate(0, 0, product));
            note(() -> x.index(0, 0, product, 2));
        }
        note(() -> x.product(RainIndex.REVISED));
        note(() -> x.station(9, 0));
        note(() -> x.farm(9, 0));
        for (int i = 0; i < 17; i++) {
            int farm = i;
            note(() -> x.told(farm, 0));
            note(() -> x.lend(farm, 1));
        }
        note(() -> x.loading(1));
        note(() -> x.layer(2, 3));
        note(() -> x.pass(1));
        note(x::day);
    }

    private void tellOn() {
        for (int i = 0; i < 5; i++) {
            for (int k = 0; k < DAYS.length; k++) {
                int station = i;
                int day = DAYS[k];
                note(() -> x.rain(station, day, 5));
                note(() -> x.filled(station, day, RainIndex.FIRST));
            }
        }
        for (int i = 0; i < 17 && isFarm(i); i++) {
            for (int k = 0; k < 4; k++) {
                int farm = i;
                int season = k;
                note(() -> x.loss(farm, season, 5));
            }
        }
    }

    private void settleAndComplain() {
        for (int i = 0; i < 4; i++) {
            int season = i;
            note(() -> x.settle(season));
        }
        for (int i = 0; i < 17 && isFarm(i); i++) {
            for (int k = 0; k < 4; k++) {
                int farm = i;
                int season = k;
                note(() -> x.complain(farm, season));
            }
            int farm = i;
            note(() -> x.told(farm, 3));
        }
        for (int i = 2; i < 5; i++) {
            int what = i;
            note(() -> x.books(what));
        }
    }

    /** Sells covers of the next season, and settles it without any rain: so that all loadings and layers tell. */
    private void sellOn() {
        int season = x.day() / 60 + 1;
        note(() -> x.pass(60 * season - 1 - x.day()));
        for (int i = 0; i < 17 && isFarm(i); i++) {
            int farm = i;
            note(() -> x.sell(farm, 0, 2000, season));
            note(() -> x.told(farm, 4));
        }
        note(() -> x.pass(60));
        note(() -> x.pass(1));
        note(() -> x.settle(season));
        for (int i = 0; i < 17 && isFarm(i); i++) {
            for (int k = 1; k < 4; k++) {
                int farm = i;
                int what = k;
                note(() -> x.told(farm, what));
            }
        }
        for (int i = 0; i < 5; i++) {
            int what = i;
            note(() -> x.books(what));
        }
    }
}
