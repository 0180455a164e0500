/** The boundary cases under "Payouts" up to trust and losses, a test for each sentence that names one. */
public final class PayoutsBoundsTest {
    public static void main(String[] args) {
        aSeasonThatIsOver();
        settledOnce();
        settledInAnyOrder();
        dueIsRoundedDown();
        byDataAsTheyAreKnownAsItIsSettled();
        dueAnewAsThen();
        moreThanBothTogether();
        bothTogetherAtFirst();
        bothTogetherAtTheirLimits();
        paidThatTimesBothTogether();
        theLayerOfSeasonsSettledFromNowOn();
        paidAboveTheRetention();
        upToTheLayer();
        eachSeasonHasItsOwnRetention();
        debtIsSetOffFirst();
        debtsOfSeveralSeasons();
        trustIfSomethingIsPaid();
        trustIfNothingIsPaid();
        trustAt100();
        trustAt0();
        lossesAbove30();
        lossesOfThatSeasonToldByThen();
        lossesAre0To100();
        aSeasonThatHasBegun();
        coversThatAreNotSettled();
        Check.report("PayoutsBoundsTest");
    }

    /** On day 120, with season 1 over and covers of these sums due in full. */
    private static RainIndex due(int... sums) {
        RainIndex x = Scenes.coversOfSeason1(sums);
        x.pass(1);
        return x;
    }

    /** "A season that is over can be settled" */
    private static void aSeasonThatIsOver() {
        int[] seasons = {0, 1, 18};
        for (int season : seasons) {
            RainIndex x = Scenes.oneFarm();
            Scenes.passTo(x, 60 * season + 58);
            Check.refused("2 days ahead", Scenes.STATE, () -> x.settle(season));
            x.pass(1);
            Check.refused("on its last day", Scenes.STATE, () -> x.settle(season));
            x.pass(1);
            Check.same("on the day behind", x.settle(season), 0);
            RainIndex y = Scenes.oneFarm();
            Scenes.passTo(y, Math.min(60 * season + 61, 1199));
            Check.same("another day behind", y.settle(season), 0);
        }
        RainIndex z = Scenes.oneFarm();
        Check.refused("on the first day of all", Scenes.STATE, () -> z.settle(0));
        Scenes.passTo(z, 1199);
        Check.refused("the last one on the last day of all", Scenes.STATE, () -> z.settle(19));
    }

    /** "once" */
    private static void settledOnce() {
        RainIndex x = due(1000, 500);
        Check.same("once", x.settle(1), 1500);
        Check.refused("twice", Scenes.STATE, () -> x.settle(1));
        x.pass(60);
        Check.refused("twice on another day", Scenes.STATE, () -> x.settle(1));
        Check.same("paid once", x.books(2), 1500);
        Check.same("got once", x.told(0, 3), 1000);
        Check.same("trust once", x.told(0, 1), 60);
        Check.same("a season without covers", x.settle(0), 0);
        Check.refused("that one twice", Scenes.STATE, () -> x.settle(0));
    }

    private static void settledInAnyOrder() {
        RainIndex x = Scenes.oneFarm();
        for (int season = 1; season <= 3; season++) {
            Scenes.passTo(x, 60 * season - 1);
            x.sell(0, 0, 100 * season, season);
        }
        Scenes.passTo(x, 240);
        Check.same("the third", x.settle(3), 300);
        Check.same("the first is not settled by that", x.cover(0, 7), Scenes.NONE);
        Check.same("the first", x.settle(1), 100);
        Check.same("the second", x.settle(2), 200);
    }

    /** "is due its sum times the rate of its product at the farm's station, divided by 1000" */
    private static void dueIsRoundedDown() {
        int[] sums = {1, 2, 999, 1000, 1001, 2000};
        int[] tenths = {0, 1, 500, 999, 1000};
        for (int tenth : tenths) {
            RainIndex x = Scenes.coversOfSeason1(sums);
            Scenes.lateOnset(x, 0, 1, tenth);
            x.pass(1);
            int all = 0;
            for (int sum : sums) {
                all += sum * (1000 - tenth) / 1000;
            }
            Check.same("all by " + tenth, x.settle(1), all);
            for (int i = 0; i < sums.length; i++) {
                Check.same("rate by " + tenth, x.cover(i, 6), 1000 - tenth);
                Check.same("due of " + sums[i] + " by " + tenth, x.cover(i, 7), sums[i] * (1000 - tenth) / 1000);
            }
        }
        RainIndex y = Scenes.coversOfSeason1(1, 2, 3);
        Scenes.lateOnset(y, 0, 1, 500);
        y.pass(1);
        Check.same("halves of 1, 2 and 3", y.settle(1), 0 + 1 + 1);
    }

    /** "by data as they are known as it is settled" */
    private static void byDataAsTheyAreKnownAsItIsSettled() {
        RainIndex x = Scenes.oneStation();
        Scenes.slope(x, Scenes.REVISED);
        x.farm(5, 5);
        x.pass(59);
        x.sell(0, 0, 1000, 1);
        Scenes.passTo(x, 120);
        Scenes.lateOnset(x, 0, 1, 100);
        Scenes.tell(x, 0, 1, 54, 200);
        Check.same("the latest ahead of it", x.settle(1), 800);
        Scenes.tell(x, 0, 1, 54, 300);
        Check.same("what was due stays", x.cover(0, 7), 800);
        Check.same("its rate stays", x.cover(0, 6), 800);
        Check.same("what was paid stays", x.cover(0, 8), 800);
        Check.same("the rate now", x.rate(0, 1, 0), 700);
    }

    /** "found anew from data and the product's clauses, as they were known when its season was settled" */
    private static void dueAnewAsThen() {
        RainIndex x = Scenes.oneStation();
        Scenes.slope(x, Scenes.REVISED);
        x.farm(5, 5);
        x.farm(5, 5);
        x.pass(59);
        x.sell(0, 0, 1000, 1);
        x.pass(60);
        x.sell(0, 0, 1000, 2);
        x.sell(1, 0, 500, 2);
        Scenes.passTo(x, 180);
        Scenes.lateOnset(x, 0, 1, 100);
        Scenes.lateOnset(x, 0, 2, 200);
        Check.same("not settled", x.dueAnew(0), Scenes.NONE);
        x.settle(1);
        Check.same("settled", x.dueAnew(0), 900);
        Check.same("of another season", x.dueAnew(1), Scenes.NONE);
        Scenes.tell(x, 0, 1, 54, 600);
        Scenes.tell(x, 0, 2, 54, 700);
        x.settle(2);
        Scenes.tell(x, 0, 1, 54, 0);
        Scenes.tell(x, 0, 2, 54, 0);
        int[] due = {900, 300, 150};
        for (int cover = 0; cover < 3; cover++) {
            Check.same("as it was known then, " + cover, x.dueAnew(cover), due[cover]);
            Check.same("as was told of it, " + cover, x.cover(cover, 7), due[cover]);
        }
        RainIndex y = due(2000, 1000);
        y.layer(0, 1);
        y.settle(1);
        Check.same("ahead of being cut", y.dueAnew(0), 2000);
    }

    private static void paid(String what, RainIndex x, int... paid) {
        int all = 0;
        for (int due : paid) {
            all += due;
        }
        Check.same(what + ", all", x.settle(1), all);
        for (int i = 0; i < paid.length; i++) {
            Check.same(what + ", cover " + i, x.cover(i, 8), paid[i]);
        }
        Check.same(what + ", the books", x.books(2), all);
    }

    private static RainIndex dueWithLayer(int retention, int layer, int... sums) {
        RainIndex x = due(sums);
        x.layer(retention, layer);
        return x;
    }

    /** "If all these together are more than the retention and the layer together, each is cut" */
    private static void moreThanBothTogether() {
        paid("1 less", dueWithLayer(1000, 500, 700, 799), 700, 799);
        paid("as much", dueWithLayer(1000, 500, 700, 800), 700, 800);
        // 700 * 1500 / 1501 is 699.5, 801 * 1500 / 1501 is 800.4.
        paid("1 more", dueWithLayer(1000, 500, 700, 801), 699, 800);
        paid("one alone, 1 less", dueWithLayer(1000, 500, 1499), 1499);
        paid("one alone, as much", dueWithLayer(1000, 500, 1500), 1500);
        paid("one alone, 1 more", dueWithLayer(1000, 500, 1501), 1500);
    }

    /** "the retention, 5000 at first, and the layer, 5000 at first" */
    private static void bothTogetherAtFirst() {
        paid("1 less", due(2000, 2000, 2000, 2000, 1999), 2000, 2000, 2000, 2000, 1999);
        paid("as much", due(2000, 2000, 2000, 2000, 2000), 2000, 2000, 2000, 2000, 2000);
        paid("1 more", due(2000, 2000, 2000, 2000, 2000, 1), 1999, 1999, 1999, 1999, 1999, 0);
        Check.same("the retention at first", new RainIndex().layer(0, 0), 5000);
    }

    private static void bothTogetherAtTheirLimits() {
        paid("neither", dueWithLayer(0, 0, 1, 2000), 0, 0);
        paid("neither, and nothing due but 1", dueWithLayer(0, 0, 1), 0);
        paid("1 and none", dueWithLayer(1, 0, 1), 1);
        paid("none and 1", dueWithLayer(0, 1, 1), 1);
        paid("1 and none of 2", dueWithLayer(1, 0, 1, 1), 0, 0);
        paid("most of both", dueWithLayer(99999, 99999, 2000, 2000), 2000, 2000);
        RainIndex x = due(2000);
        Scenes.lateOnset(x, 0, 1, 1000);
        x.layer(0, 0);
        paid("nothing due at all", x, 0);
        int[] sums = new int[16];
        java.util.Arrays.fill(sums, 2000);
        int[] half = new int[16];
        java.util.Arrays.fill(half, 999);
        paid("16 of 2000, by 1 less than their half", dueWithLayer(9999, 6000, sums), half);
    }

    /** "it is paid that times both together, divided by all that are due, rounded down" */
    private static void paidThatTimesBothTogether() {
        paid("thirds", dueWithLayer(50, 50, 1, 1, 298), 0, 0, 99);
        paid("thirds of more", dueWithLayer(100, 0, 100, 100, 100), 33, 33, 33);
        paid("two thirds", dueWithLayer(0, 200, 100, 100, 100), 66, 66, 66);
        paid("the greatest", dueWithLayer(3999, 0, 2000, 2000), 1999, 1999);
    }

    /** "Sets retention and layer, for seasons that are settled from now on." */
    private static void theLayerOfSeasonsSettledFromNowOn() {
        RainIndex x = due(1000, 1000);
        x.settle(1);
        x.layer(1, 1);
        Check.same("settled ahead of it", x.cover(0, 8), 1000);
        Check.same("carried ahead of it", x.books(3), 0);
        RainIndex y = due(1000, 1000);
        y.layer(1, 1);
        y.layer(600, 400);
        Check.same("by the latest", y.settle(1), 1000);
        Check.same("carried by the latest", y.books(3), 400);
    }

    private static int carried(int retention, int layer, int... sums) {
        RainIndex x = dueWithLayer(retention, layer, sums);
        x.settle(1);
        Check.same("what the insurer has", x.books(4), x.books(0) + x.books(3) - x.books(2));
        return x.books(3);
    }

    /** "What is paid above the retention .. the backer carries." */
    private static void paidAboveTheRetention() {
        Check.same("1 below", carried(1000, 500, 999), 0);
        Check.same("at it", carried(1000, 500, 1000), 0);
        Check.same("1 above", carried(1000, 500, 1001), 1);
        Check.same("1 above of two", carried(1000, 500, 1, 1000), 1);
        Check.same("no retention", carried(0, 500, 1), 1);
        Check.same("at 5000 at first", carried(5000, 5000, 2000, 2000, 1000), 0);
        Check.same("above 5000 at first", carried(5000, 5000, 2000, 2000, 1001), 1);
    }

    /** "up to the layer" */
    private static void upToTheLayer() {
        Check.same("1 below", carried(1000, 500, 1499), 499);
        Check.same("at it", carried(1000, 500, 1500), 500);
        Check.same("1 above, all in one", carried(1000, 500, 1501), 500);
        Check.same("1 above, cut and rounded down", carried(1000, 500, 700, 801), 499);
        Check.same("no layer, at the retention", carried(1000, 0, 1000), 0);
        Check.same("no layer, above the retention", carried(1000, 0, 1001), 0);
        Check.same("the layer alone", carried(0, 500, 2000), 500);
    }

    private static void eachSeasonHasItsOwnRetention() {
        RainIndex x = Scenes.oneFarm();
        x.layer(100, 50);
        for (int season = 1; season <= 3; season++) {
            Scenes.passTo(x, 60 * season - 1);
            x.sell(0, 0, 80 + 25 * season, season);
        }
        Scenes.passTo(x, 240);
        x.settle(1);
        Check.same("105", x.books(3), 5);
        x.settle(2);
        Check.same("130", x.books(3), 5 + 30);
        x.settle(3);
        Check.same("155, cut to 150", x.books(3), 5 + 30 + 50);
        Check.same("all paid", x.books(2), 105 + 130 + 150);
    }

    private static void setOff(int debt, int setOff, int own, int left) {
        RainIndex x = due(500);
        if (debt > 0) {
            x.lend(0, debt);
        }
        Check.same("paid with a debt of " + debt, x.settle(1), 500);
        Check.same("paid of the cover with a debt of " + debt, x.cover(0, 8), 500);
        Check.same("set off of " + debt, x.cover(0, 9), setOff);
        Check.same("its own with a debt of " + debt, x.told(0, 3), own);
        Check.same("left of a debt of " + debt, x.told(0, 2), left);
        Check.same("in the books with a debt of " + debt, x.books(2), 500);
    }

    /** "Of what a cover is paid the farm's debt is set off first, the rest is its own." */
    private static void debtIsSetOffFirst() {
        setOff(0, 0, 500, 0);
        setOff(1, 1, 499, 0);
        setOff(499, 499, 1, 0);
        setOff(500, 500, 0, 0);
        setOff(501, 500, 0, 1);
        setOff(9999, 500, 0, 9499);
        RainIndex x = dueWithLayer(0, 0, 500);
        x.lend(0, 100);
        x.settle(1);
        Check.same("nothing of nothing", x.cover(0, 9), 0);
        Check.same("all is left", x.told(0, 2), 100);
        RainIndex y = dueWithLayer(100, 50, 500);
        y.lend(0, 120);
        y.settle(1);
        Check.same("of what is paid, not of what is due", y.cover(0, 9), 120);
        Check.same("its own of 150", y.told(0, 3), 30);
    }

    private static void debtsOfSeveralSeasons() {
        RainIndex x = Scenes.oneFarm();
        x.farm(5, 5);
        x.lend(0, 250);
        for (int season = 1; season <= 3; season++) {
            Scenes.passTo(x, 60 * season - 1);
            x.sell(0, 0, 100, season);
            x.sell(1, 0, 100, season);
        }
        Scenes.passTo(x, 240);
        int[] setOff = {100, 100, 50};
        for (int season = 1; season <= 3; season++) {
            x.settle(season);
            Check.same("set off in " + season, x.cover(2 * season - 2, 9), setOff[season - 1]);
            Check.same("set off of another farm in " + season, x.cover(2 * season - 1, 9), 0);
        }
        Check.same("its own", x.told(0, 3), 50);
        Check.same("the other's own", x.told(1, 3), 300);
        Check.same("a debt behind it", x.lend(0, 5), 5);
    }

    private static int trust(int sum, int tenths, int loss) {
        RainIndex x = due(sum);
        Scenes.lateOnset(x, 0, 1, tenths);
        if (loss != Scenes.NONE) {
            x.loss(0, 1, loss);
        }
        x.settle(1);
        return x.told(0, 1);
    }

    /** "Trust by a settled cover: 10 more, if something is paid" */
    private static void trustIfSomethingIsPaid() {
        Check.same("1 is paid", trust(1000, 999, Scenes.NONE), 60);
        Check.same("1 is paid, with a loss of 100", trust(1000, 999, 100), 60);
        Check.same("2 are paid", trust(2000, 999, Scenes.NONE), 60);
        Check.same("less than 1 is due", trust(999, 999, Scenes.NONE), 50);
        Check.same("less than 1 is due, with a loss of 100", trust(999, 999, 100), 30);
        RainIndex x = dueWithLayer(1, 0, 1000, 1000);
        x.loss(0, 1, 100);
        x.settle(1);
        Check.same("cut to nothing, with a loss", x.told(0, 1), 30);
        Check.same("cut to nothing, without", x.told(1, 1), 50);
        RainIndex y = dueWithLayer(2, 0, 1000, 1000);
        y.settle(1);
        Check.same("cut to 1", y.told(0, 1), 60);
    }

    /** "otherwise 20 less, if a loss was told of the farm for that season" */
    private static void trustIfNothingIsPaid() {
        Check.same("nothing is paid, no loss is told", trust(1000, 1000, Scenes.NONE), 50);
        Check.same("nothing is paid, a loss of 0", trust(1000, 1000, 0), 50);
        Check.same("nothing is paid, a loss of 100", trust(1000, 1000, 100), 30);
        RainIndex x = due(1000);
        x.farm(5, 5);
        Scenes.lateOnset(x, 0, 1, 1000);
        x.loss(1, 1, 100);
        x.settle(1);
        Check.same("a loss of another farm", x.told(0, 1), 50);
        Check.same("a farm without a cover", x.told(1, 1), 50);
    }

    /** "and is above 30" */
    private static void lossesAbove30() {
        Check.same("29", trust(1000, 1000, 29), 50);
        Check.same("30", trust(1000, 1000, 30), 50);
        Check.same("31", trust(1000, 1000, 31), 30);
        Check.same("32", trust(1000, 1000, 32), 30);
    }

    /** "it is 0 to 100": the upper one. */
    private static void trustAt100() {
        RainIndex x = Scenes.oneFarm();
        for (int season = 1; season <= 7; season++) {
            Scenes.passTo(x, 60 * season - 1);
            x.sell(0, 0, 10, season);
        }
        Scenes.passTo(x, 480);
        int[] trusts = {60, 70, 80, 90, 100, 100};
        for (int season = 1; season <= 6; season++) {
            x.settle(season);
            Check.same("paid " + season + " times", x.told(0, 1), trusts[season - 1]);
        }
        x.layer(0, 0);
        x.loss(0, 7, 31);
        x.settle(7);
        Check.same("20 less than 100", x.told(0, 1), 80);
    }

    /** "it is 0 to 100": the lower one. */
    private static void trustAt0() {
        int[] trusts = {50, 30, 10, 0, 0};
        for (int seasons = 0; seasons <= 4; seasons++) {
            Check.same("lost " + seasons + " times", Scenes.distrusted(seasons).told(0, 1), trusts[seasons]);
        }
        RainIndex x = Scenes.oneFarm();
        for (int season = 1; season <= 6; season++) {
            Scenes.passTo(x, 60 * season - 1);
            x.sell(0, 0, 10, season);
        }
        Scenes.passTo(x, 420);
        int[] trustsThen = {60, 40, 20, 0, 0, 10};
        for (int season = 1; season <= 6; season++) {
            x.layer(season == 1 || season == 6 ? 10 : 0, 0);
            x.loss(0, season, 31);
            x.settle(season);
            Check.same("by season " + season, x.told(0, 1), trustsThen[season - 1]);
        }
    }

    /** "if a loss was told of the farm for that season": by the time of the settling, the latest one. */
    private static void lossesOfThatSeasonToldByThen() {
        RainIndex x = due(1000);
        Scenes.lateOnset(x, 0, 1, 1000);
        x.loss(0, 0, 100);
        x.loss(0, 2, 100);
        x.settle(1);
        Check.same("the seasons ahead of it and behind it", x.told(0, 1), 50);
        x.loss(0, 1, 100);
        Check.same("told behind the settling", x.told(0, 1), 50);
        RainIndex y = due(1000);
        Scenes.lateOnset(y, 0, 1, 1000);
        y.loss(0, 1, 100);
        y.loss(0, 1, 30);
        y.settle(1);
        Check.same("told 30 in place of 100", y.told(0, 1), 50);
        RainIndex z = due(1000);
        Scenes.lateOnset(z, 0, 1, 1000);
        z.loss(0, 1, 30);
        z.loss(0, 1, 31);
        z.settle(1);
        Check.same("told 31 in place of 30", z.told(0, 1), 30);
    }

    /** "Losses are told, 0 to 100" */
    private static void lossesAre0To100() {
        RainIndex x = Scenes.oneFarm();
        int before = Scenes.NONE;
        int[] losses = {0, 1, 99, 100, 0, 0};
        for (int loss : losses) {
            Check.refused("a loss of -1", Scenes.ARGUMENT, () -> x.loss(0, 0, -1));
            Check.refused("a loss of 101", Scenes.ARGUMENT, () -> x.loss(0, 0, 101));
            Check.same("a loss of " + loss, x.loss(0, 0, loss), before);
            before = loss;
        }
    }

    /** "for a farm and a season that has begun" */
    private static void aSeasonThatHasBegun() {
        int[] seasons = {1, 2, 19};
        for (int season : seasons) {
            RainIndex x = Scenes.oneFarm();
            Scenes.passTo(x, 60 * season - 2);
            Check.refused("2 days ahead", Scenes.STATE, () -> x.loss(0, season, 5));
            x.pass(1);
            Check.refused("1 day ahead", Scenes.STATE, () -> x.loss(0, season, 5));
            x.pass(1);
            Check.same("on its first day", x.loss(0, season, 5), Scenes.NONE);
            x.pass(1);
            Check.same("on its second day", x.loss(0, season, 6), 5);
            Check.same("the season ahead of it", x.loss(0, season - 1, 7), Scenes.NONE);
        }
        RainIndex y = Scenes.oneFarm();
        Check.same("season 0 has begun", y.loss(0, 0, 5), Scenes.NONE);
        Scenes.passTo(y, 1199);
        Check.same("on the last day of the last season", y.loss(0, 19, 5), Scenes.NONE);
        Check.same("long behind the season", y.loss(0, 0, 6), 5);
    }

    /** "NONE for 6 and 7, 0 for 8 and 9, if it is not settled" */
    private static void coversThatAreNotSettled() {
        RainIndex x = due(1000);
        x.lend(0, 300);
        int[] ahead = {Scenes.NONE, Scenes.NONE, 0, 0};
        int[] behind = {1000, 1000, 1000, 300};
        for (int i = 0; i < 4; i++) {
            Check.same("over, but not settled: " + (6 + i), x.cover(0, 6 + i), ahead[i]);
        }
        x.settle(1);
        for (int i = 0; i < 4; i++) {
            Check.same("settled: " + (6 + i), x.cover(0, 6 + i), behind[i]);
        }
        RainIndex y = due(1000);
        Scenes.lateOnset(y, 0, 1, 1000);
        y.settle(1);
        for (int i = 0; i < 4; i++) {
            Check.same("settled with nothing due: " + (6 + i), y.cover(0, 6 + i), 0);
        }
    }
}
