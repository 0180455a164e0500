/** Promises 5, 6 and 18 to 20: phases, products, what they look at, what they pay, what they are priced by. */
public final class ClausesTest {
    public static void main(String[] args) {
        promise5Phase();
        promise5WrongInputs();
        promise6Product();
        promise6WrongInputs();
        promise18SumsAndSpells();
        promise18BehindTheSeason();
        promise18WithoutAnOnset();
        promise18KnownAsTheProductTells();
        promise18WrongInputs();
        promise19BySums();
        promise19BySpells();
        promise19Weights();
        promise19KnownAndWrongInputs();
        promise20Priced();
        promise20WrongInputs();
        Check.report("ClausesTest");
    }

    private static void promise5Phase() {
        RainIndex x = new RainIndex();
        Check.same("5: the least of a sum", x.phase(1, false, 1, 0, 1), 1);
        Check.same("5: the most of a sum", x.phase(30, false, 9999, 9998, 100), 2);
        Check.same("5: a dry spell", x.phase(30, true, 0, 1, 1), 3);
        Check.refused("5: a fourth", Scenes.STATE, () -> x.phase(1, false, 1, 0, 1));
        Check.refused("5: a fourth out of range", Scenes.ARGUMENT, () -> x.phase(0, false, 1, 0, 1));
        x.product(Scenes.FIRST);
        Check.same("5: the next product's first", x.phase(1, true, 9998, 9999, 1), 1);
    }

    private static void promise5WrongInputs() {
        RainIndex x = new RainIndex();
        int[][] wrong = {
            {0, 0, 1, 0, 1}, {31, 0, 1, 0, 1}, {-5, 0, 1, 0, 1}, {1, 0, 1, 0, 0}, {1, 0, 1, 0, 101},
            {1, 0, 0, 0, 1}, {1, 0, 5, 5, 1}, {1, 0, 4, 5, 1}, {1, 0, 10000, 0, 1}, {1, 0, 1, -1, 1}, {1, 0, -1, -2, 1},
            {1, 0, 10001, 10000, 1}, {1, 1, 5, 5, 1}, {1, 1, 5, 4, 1}, {1, 1, -1, 4, 1}, {1, 1, 1, 10000, 1},
            {1, 1, 0, 0, 1}, {1, 1, 10000, 10001, 1},
        };
        for (int[] w : wrong) {
            Check.refused("5: phase(" + java.util.Arrays.toString(w) + ")", Scenes.ARGUMENT,
                    () -> x.phase(w[0], w[1] == 1, w[2], w[3], w[4]));
        }
        Check.same("5: what was refused is no phase", x.phase(1, false, 1, 0, 1), 1);
    }

    private static void promise6Product() {
        RainIndex x = new RainIndex();
        for (int i = 0; i < 6; i++) {
            x.phase(1, false, 1, 0, 1);
            Check.same("6: product " + i, x.product(i % 2), i);
        }
        x.phase(1, false, 1, 0, 1);
        Check.refused("6: a seventh", Scenes.STATE, () -> x.product(Scenes.FIRST));
        Check.refused("6: a seventh out of range", Scenes.ARGUMENT, () -> x.product(2));
        Check.same("6: the phase is still there", x.phase(1, false, 1, 0, 1), 2);
    }

    private static void promise6WrongInputs() {
        RainIndex x = Scenes.oneStation();
        Check.refused("6: without a phase", Scenes.STATE, () -> x.product(Scenes.REVISED));
        Check.refused("6: known 2", Scenes.ARGUMENT, () -> x.product(2));
        Check.refused("6: known -1", Scenes.ARGUMENT, () -> x.product(-1));
        x.phase(1, false, 1, 0, 1);
        Check.refused("6: known 2 with a phase", Scenes.ARGUMENT, () -> x.product(2));
        Check.same("6: then", x.product(Scenes.REVISED), 0);
        Check.refused("6: the next one has no phases", Scenes.STATE, () -> x.product(Scenes.FIRST));
        Check.refused("6: product 1 is none", Scenes.INDEX, () -> x.index(0, 0, 1, 0));
    }

    /** Onset on day 2; 42 tenths on the days 3 to 12; rain on day 13; from day 14 on dry. */
    private static RainIndex earlyOnset() {
        RainIndex x = Scenes.oneStation();
        Scenes.passTo(x, 60);
        Scenes.tell(x, 0, 0, 0, 200, 3, 5, 4, 20, 9, 10, 12, 7, 13, 100);
        Scenes.tell(x, 0, 1, 0, 500);
        return x;
    }

    private static void promise18SumsAndSpells() {
        RainIndex x = earlyOnset();
        x.phase(10, false, 1, 0, 1);
        x.phase(8, true, 1, 2, 1);
        x.phase(30, false, 1, 0, 1);
        x.product(Scenes.FIRST);
        Check.same("18: the sum of days 3 to 12", x.index(0, 0, 0, 0), 42);
        Check.same("18: dry on days 14 to 20", x.index(0, 0, 0, 1), 7);
        Check.same("18: the sum of days 21 to 50", x.index(0, 0, 0, 2), 0);
        x.phase(10, true, 1, 2, 1);
        x.phase(1, false, 1, 0, 1);
        x.product(Scenes.FIRST);
        Check.same("18: days 5 to 8 are the longest", x.index(0, 0, 1, 0), 4);
        Check.same("18: day 13 alone", x.index(0, 0, 1, 1), 100);
    }

    private static void promise18BehindTheSeason() {
        RainIndex x = earlyOnset();
        x.phase(30, true, 1, 2, 1);
        x.phase(30, true, 1, 2, 1);
        x.phase(30, true, 1, 2, 1);
        x.product(Scenes.FIRST);
        Check.same("18: days 14 to 32", x.index(0, 0, 0, 0), 19);
        Check.same("18: days 33 to 59, as far as they are of the season", x.index(0, 0, 0, 1), 27);
        Check.same("18: a spell of which no day is in the season", x.index(0, 0, 0, 2), 60);
        x.phase(30, false, 1, 0, 1);
        x.phase(30, false, 1, 0, 1);
        x.phase(30, false, 1, 0, 1);
        x.product(Scenes.FIRST);
        Check.same("18: days 33 to 59 without the next season's rain", x.index(0, 0, 1, 1), 0);
        Check.same("18: a sum of which no day is in the season", x.index(0, 0, 1, 2), 0);
        RainIndex y = Scenes.oneStation();
        Scenes.passTo(y, 59);
        Scenes.tell(y, 0, 0, 59, 200);
        y.phase(1, true, 1, 2, 1);
        y.phase(1, false, 1, 0, 1);
        y.product(Scenes.FIRST);
        Check.same("18: an onset on the last day leaves no spell", y.index(0, 0, 0, 0), 60);
        Check.same("18: an onset on the last day leaves no sum", y.index(0, 0, 0, 1), 0);
        Scenes.tell(y, 0, 0, 58, 200);
        Check.same("18: one day of it is left", y.index(0, 0, 0, 0), 0);
    }

    private static void promise18WithoutAnOnset() {
        RainIndex x = Scenes.oneStation();
        x.phase(5, false, 1, 0, 1);
        x.phase(5, true, 1, 2, 1);
        x.product(Scenes.FIRST);
        x.rain(0, 0, 199);
        Check.same("18: a sum without an onset", x.index(0, 0, 0, 0), 0);
        Check.same("18: a spell without an onset", x.index(0, 0, 0, 1), 60);
    }

    private static void promise18KnownAsTheProductTells() {
        RainIndex x = Scenes.oneStation();
        Scenes.slope(x, Scenes.FIRST);
        Scenes.slope(x, Scenes.REVISED);
        Scenes.passTo(x, 59);
        Scenes.lateOnset(x, 0, 0, 300);
        Scenes.tell(x, 0, 0, 54, 80);
        Check.same("18: by first data", x.index(0, 0, 0, 0), 300);
        Check.same("18: by revised data", x.index(0, 0, 1, 0), 80);
        Check.same("19: by first data", x.rate(0, 0, 0), 700);
        Check.same("19: by revised data", x.rate(0, 0, 1), 920);
    }

    private static void promise18WrongInputs() {
        RainIndex x = Scenes.oneStation();
        x.phase(1, false, 1, 0, 1);
        x.phase(1, false, 1, 0, 1);
        x.product(Scenes.FIRST);
        x.phase(1, false, 1, 0, 1);
        Check.same("18: the last phase", x.index(0, 19, 0, 1), 0);
        int[][] wrong = {{1, 0, 0, 0}, {-1, 0, 0, 0}, {0, 20, 0, 0}, {0, -1, 0, 0}, {0, 0, 1, 0}, {0, 0, -1, 0},
            {0, 0, 0, 2}, {0, 0, 0, -1}};
        for (int[] w : wrong) {
            Check.refused("18: index(" + java.util.Arrays.toString(w) + ")", Scenes.INDEX,
                    () -> x.index(w[0], w[1], w[2], w[3]));
        }
    }

    private static int rateBySum(int tenths, int trigger, int exit, int weight) {
        RainIndex x = Scenes.oneStation();
        x.phase(1, false, trigger, exit, weight);
        x.product(Scenes.FIRST);
        Scenes.passTo(x, 59);
        Scenes.lateOnset(x, 0, 0, tenths);
        return x.rate(0, 0, 0);
    }

    private static void promise19BySums() {
        Check.same("19: above the trigger", rateBySum(301, 300, 100, 100), 0);
        Check.same("19: the trigger", rateBySum(300, 300, 100, 100), 0);
        Check.same("19: just below the trigger", rateBySum(299, 300, 100, 100), 5);
        Check.same("19: between", rateBySum(167, 300, 100, 100), 665);
        Check.same("19: rounded down", rateBySum(1, 3, 0, 100), 666);
        Check.same("19: just above the exit", rateBySum(101, 300, 100, 100), 995);
        Check.same("19: the exit", rateBySum(100, 300, 100, 100), 1000);
        Check.same("19: below the exit", rateBySum(99, 300, 100, 100), 1000);
        Check.same("19: 33 hundredths of 995", rateBySum(101, 300, 100, 33), 328);
        Check.same("19: 1 hundredth of all", rateBySum(0, 300, 100, 1), 10);
    }

    /** By a phase of 5 days, the first of which are dry. */
    private static int rateBySpell(int dryDays) {
        RainIndex x = Scenes.oneStation();
        x.phase(5, true, 1, 4, 100);
        x.product(Scenes.FIRST);
        Scenes.passTo(x, 59);
        Scenes.tell(x, 0, 0, 0, 200, 8, 10, 14, 10);
        for (int day = 3 + dryDays; day < 8; day++) {
            Scenes.tell(x, 0, 0, day, 10);
        }
        return x.rate(0, 0, 0);
    }

    private static void promise19BySpells() {
        Check.same("19: no dry day", rateBySpell(0), 0);
        Check.same("19: the trigger's spell", rateBySpell(1), 0);
        Check.same("19: one more", rateBySpell(2), 333);
        Check.same("19: two more", rateBySpell(3), 666);
        Check.same("19: the exit's spell", rateBySpell(4), 1000);
        Check.same("19: a longer one", rateBySpell(5), 1000);
    }

    private static void promise19Weights() {
        RainIndex x = Scenes.oneStation();
        x.phase(1, false, 300, 100, 33);
        x.phase(1, false, 300, 100, 33);
        x.product(Scenes.FIRST);
        x.phase(1, false, 300, 100, 100);
        x.phase(1, false, 300, 100, 100);
        x.product(Scenes.FIRST);
        x.phase(2, false, 300, 100, 40);
        x.phase(1, true, 0, 1, 25);
        x.phase(9, true, 0, 8, 7);
        x.product(Scenes.FIRST);
        Scenes.passTo(x, 59);
        Scenes.lateOnset(x, 0, 0, 299);
        Scenes.tell(x, 0, 0, 55, 299);
        Check.same("19: each is rounded down by itself", x.rate(0, 0, 0), 2);
        Check.same("19: 5 and 5", x.rate(0, 0, 1), 10);
        // None of the sum; 1000 times 25 hundredths of the one dry day 56; 3 of 8 days: 375 times 7 hundredths.
        Check.same("19: sums and spells together", x.rate(0, 0, 2), 250 + 26);
        Check.same("19: 1000 at most", x.rate(0, 1, 1), 1000);
        Check.same("19: less than 1000 in all", x.rate(0, 1, 0), 660);
        Check.same("19: all three", x.rate(0, 1, 2), 720);
    }

    private static void promise19KnownAndWrongInputs() {
        RainIndex x = Scenes.oneStation();
        Scenes.slope(x, Scenes.FIRST);
        Check.same("19: a season to come", x.rate(0, 19, 0), 1000);
        int[][] wrong = {{1, 0, 0}, {-1, 0, 0}, {0, 20, 0}, {0, -1, 0}, {0, 0, 1}, {0, 0, -1}};
        for (int[] w : wrong) {
            Check.refused("19: rate(" + java.util.Arrays.toString(w) + ")", Scenes.INDEX,
                    () -> x.rate(w[0], w[1], w[2]));
        }
    }

    private static void promise20Priced() {
        RainIndex x = Scenes.oneStation();
        Scenes.slope(x, Scenes.FIRST);
        Scenes.slope(x, Scenes.REVISED);
        Scenes.passTo(x, 59);
        Scenes.lateOnset(x, 0, 0, 500);
        Check.same("20: no season is over", x.priced(0, 0), 100);
        x.pass(1);
        Check.same("20: one is over", x.priced(0, 0), 500);
        Scenes.passTo(x, 119);
        Scenes.lateOnset(x, 0, 1, 333);
        Check.same("20: still one", x.priced(0, 0), 500);
        x.pass(1);
        Check.same("20: 500 and 667 by two", x.priced(0, 0), 583);
        Scenes.tell(x, 0, 0, 54, 250);
        Check.same("20: by first data", x.priced(0, 0), 583);
        Check.same("20: by revised data, 750 and 667", x.priced(0, 1), 708);
        Scenes.passTo(x, 180);
        Check.same("20: a season without any data too", x.priced(0, 0), (500 + 667 + 1000) / 3);
        Scenes.passTo(x, 1199);
        Check.same("20: 19 are over at the end", x.priced(0, 0), (500 + 667 + 17 * 1000) / 19);
    }

    private static void promise20WrongInputs() {
        RainIndex x = Scenes.oneStation();
        Scenes.slope(x, Scenes.FIRST);
        Check.refused("20: priced(1, 0)", Scenes.INDEX, () -> x.priced(1, 0));
        Check.refused("20: priced(-1, 0)", Scenes.INDEX, () -> x.priced(-1, 0));
        Check.refused("20: priced(0, 1)", Scenes.INDEX, () -> x.priced(0, 1));
        Check.refused("20: priced(0, -1)", Scenes.INDEX, () -> x.priced(0, -1));
    }
}
