/** The boundary cases under "Covers", a test for each sentence that names one. */
public final class SalesBoundsTest {
    private static final int FIRST = Scenes.FIRST;

    public static void main(String[] args) {
        farmsAreNumberedFrom0AtMost16();
        aFarmBelongsToTheStationNearestWhenItComes();
        trustAndDebtAtFirst();
        debtsAtMost99999();
        from30DaysAhead();
        toAheadOfItsFirstDay();
        windowsOfTheFirstAndTheLastSeason();
        oneForEachFarmAndSeason();
        trustBelow20TakesNone();
        sixtyCovers();
        sums1To2000();
        thePriceIsRoundedDown();
        theLoadingIsRoundedDown();
        theLoadingFromNowOn();
        seasonsThatAreOverByThen();
        seasonsWithoutAnyData();
        dividedByHowManyThereAre();
        pricedByDataAsTheProductTells();
        theSumAtMost500();
        theHalfIsRoundedDown();
        theFarmPaysTheRest();
        Check.report("SalesBoundsTest");
    }

    /** "Farms are numbered from 0, at most 16" */
    private static void farmsAreNumberedFrom0AtMost16() {
        RainIndex x = Scenes.oneStation();
        for (int i = 0; i < 16; i++) {
            int number = i;
            Check.refused("no farm yet of " + i, Scenes.INDEX, () -> x.told(number, 0));
            Check.same("farm " + i, x.farm(i % 10, i / 10), i);
            Check.same("a farm of " + i, x.told(i, 1), 50);
        }
        Check.refused("a 17th", Scenes.STATE, () -> x.farm(0, 0));
        Check.refused("no farm of 16", Scenes.INDEX, () -> x.told(16, 0));
        Check.same("lent to the last", x.lend(15, 7), 7);
        Check.same("not to the one ahead of it", x.told(14, 2), 0);
    }

    /** "a farm belongs to the station nearest to it, as stations are when it comes" */
    private static void aFarmBelongsToTheStationNearestWhenItComes() {
        RainIndex x = new RainIndex();
        x.station(0, 0);
        x.farm(5, 5);
        x.station(9, 9);
        x.farm(5, 5);
        x.farm(4, 4);
        x.station(5, 5);
        x.farm(5, 5);
        x.farm(4, 4);
        int[] stations = {0, 1, 0, 2, 2};
        for (int farm = 0; farm < 5; farm++) {
            Check.same("the station of farm " + farm, x.told(farm, 0), stations[farm]);
        }
        Scenes.slope(x, FIRST);
        x.pass(59);
        for (int farm = 0; farm < 4; farm++) {
            x.sell(farm, 0, 1000, 1);
        }
        Scenes.passTo(x, 120);
        for (int station = 0; station < 3; station++) {
            Scenes.lateOnset(x, station, 1, 100 + 100 * station);
        }
        x.settle(1);
        for (int farm = 0; farm < 4; farm++) {
            Check.same("due to farm " + farm, x.cover(farm, 7), 900 - 100 * stations[farm]);
        }
    }

    /** "It has trust, 50 at first, and a debt, 0 at first." */
    private static void trustAndDebtAtFirst() {
        RainIndex x = Scenes.oneStation();
        for (int farm = 0; farm < 3; farm++) {
            x.farm(5, 5);
            int[] facts = {0, 50, 0, 0, 0};
            for (int what = 0; what < 5; what++) {
                Check.same("told(" + farm + ", " + what + ")", x.told(farm, what), facts[what]);
            }
            x.lend(farm, 10);
        }
    }

    /** "if it would be above 99999" */
    private static void debtsAtMost99999() {
        RainIndex x = Scenes.oneFarm();
        x.farm(5, 5);
        for (int i = 1; i <= 10; i++) {
            Check.same("lent " + i + " times", x.lend(0, 9999), 9999 * i);
        }
        Check.refused("up to 100000", Scenes.STATE, () -> x.lend(0, 10));
        Check.same("up to 99998", x.lend(0, 8), 99998);
        Check.refused("2 up to 100000", Scenes.STATE, () -> x.lend(0, 2));
        Check.same("up to 99999", x.lend(0, 1), 99999);
        Check.refused("1 up to 100000", Scenes.STATE, () -> x.lend(0, 1));
        Check.same("another farm's", x.lend(1, 9999), 9999);
        Check.same("the debt", x.told(0, 2), 99999);
    }

    private static String sold(int day, int season) {
        RainIndex x = Scenes.oneFarm();
        Scenes.passTo(x, day);
        return Check.answer(() -> x.sell(0, 0, 10, season));
    }

    private static void isSold(int day, int season) {
        Check.alike("season " + season + " on day " + day, sold(day, season), "0");
    }

    private static void isNotSold(int day, int season) {
        Check.alike("season " + season + " on day " + day, sold(day, season), "throws.IllegalStateException");
    }

    /** "from 30 days ahead of its first day" */
    private static void from30DaysAhead() {
        int[] seasons = {1, 2, 10, 19};
        for (int season : seasons) {
            isNotSold(60 * season - 32, season);
            isNotSold(60 * season - 31, season);
            isSold(60 * season - 30, season);
            isSold(60 * season - 29, season);
        }
    }

    /** "to ahead of that": "no cover is sold after its window" */
    private static void toAheadOfItsFirstDay() {
        int[] seasons = {1, 2, 10, 19};
        for (int season : seasons) {
            isSold(60 * season - 2, season);
            isSold(60 * season - 1, season);
            isNotSold(60 * season, season);
            isNotSold(60 * season + 1, season);
            isNotSold(60 * season + 59, season);
        }
    }

    private static void windowsOfTheFirstAndTheLastSeason() {
        isNotSold(0, 0);
        isNotSold(1, 0);
        isNotSold(0, 1);
        isNotSold(1199, 19);
        isNotSold(45, 0);
        isNotSold(45, 2);
        isNotSold(1139, 18);
    }

    /** "It is one for each farm and season" */
    private static void oneForEachFarmAndSeason() {
        RainIndex x = Scenes.oneFarm();
        Scenes.slope(x, Scenes.REVISED);
        x.farm(5, 5);
        x.pass(59);
        Check.same("the first", x.sell(0, 0, 10, 1), 0);
        Check.refused("the same again", Scenes.STATE, () -> x.sell(0, 0, 10, 1));
        Check.refused("of another product and sum", Scenes.STATE, () -> x.sell(0, 1, 20, 1));
        Check.same("another farm's", x.sell(1, 0, 10, 1), 1);
        Check.refused("that one's again", Scenes.STATE, () -> x.sell(1, 1, 10, 1));
        x.pass(60);
        Check.same("another season's", x.sell(0, 0, 10, 2), 2);
        Check.refused("that one's again", Scenes.STATE, () -> x.sell(0, 0, 10, 2));
        x.settle(0);
        x.pass(1);
        x.settle(1);
        Scenes.passTo(x, 170);
        Check.same("another season's behind a settled one", x.sell(0, 1, 10, 3), 3);
        Check.refused("no cover of 4", Scenes.INDEX, () -> x.cover(4, 0));
    }

    /** Trust of 20: once 10 more, then twice 20 less. */
    private static RainIndex trustOf20() {
        RainIndex x = Scenes.oneFarm();
        for (int season = 1; season <= 3; season++) {
            Scenes.passTo(x, 60 * season - 1);
            x.sell(0, 0, 10, season);
        }
        Scenes.passTo(x, 240);
        x.settle(1);
        x.layer(0, 0);
        for (int season = 2; season <= 3; season++) {
            x.loss(0, season, 31);
            x.settle(season);
        }
        return x;
    }

    /** "a farm with trust below 20 takes none" */
    private static void trustBelow20TakesNone() {
        RainIndex x = trustOf20();
        Check.same("trust of 20", x.told(0, 1), 20);
        Scenes.passTo(x, 299);
        Check.same("at 20", x.sell(0, 0, 10, 5), 3);
        RainIndex y = Scenes.distrusted(1);
        Check.same("trust of 30", y.told(0, 1), 30);
        Scenes.passTo(y, 179);
        Check.same("at 30", y.sell(0, 0, 10, 3), 1);
        RainIndex z = Scenes.distrusted(2);
        Check.same("trust of 10", z.told(0, 1), 10);
        Scenes.passTo(z, 239);
        Check.refused("at 10", Scenes.STATE, () -> z.sell(0, 0, 10, 4));
        z.farm(5, 5);
        Check.same("another farm's trust is its own", z.sell(1, 0, 10, 4), 2);
    }

    /** "if there are 60" */
    private static void sixtyCovers() {
        RainIndex x = Scenes.sixtyCovers();
        Check.same("the 59th", x.cover(58, 3), 4);
        Check.same("the 60th", x.cover(59, 0), 11);
        Check.refused("the 61st", Scenes.STATE, () -> x.sell(12, 0, 10, 4));
        Check.refused("no cover of 60", Scenes.INDEX, () -> x.cover(60, 0));
        Check.same("the 61st is not paid for", x.told(12, 4), x.told(13, 4));
        Scenes.passTo(x, 300);
        Check.same("the 12 of season 4", x.settle(4), 12 * 10);
        Check.refused("settled covers make no room", Scenes.STATE, () -> x.sell(12, 0, 10, 5));
        Check.same("due to the 60th", x.dueAnew(59), 10);
    }

    /** "sum: 1 to 2000" */
    private static void sums1To2000() {
        int[] sums = {1, 2, 1999, 2000};
        for (int sum : sums) {
            RainIndex x = Scenes.oneFarm();
            x.pass(59);
            Check.refused("0", Scenes.ARGUMENT, () -> x.sell(0, 0, 0, 1));
            Check.refused("2001", Scenes.ARGUMENT, () -> x.sell(0, 0, 2001, 1));
            x.sell(0, 0, sum, 1);
            Check.same("the sum", x.cover(0, 2), sum);
            Scenes.passTo(x, 120);
            Check.same("what it is paid of " + sum, x.settle(1), sum);
        }
    }

    /** On day 90, with a price's rate of 1000 less the tenths and a loading. */
    private static RainIndex pricedBy(int tenths, int loading) {
        RainIndex x = Scenes.oneFarm();
        Scenes.passTo(x, 90);
        Scenes.lateOnset(x, 0, 0, tenths);
        x.loading(loading);
        Check.same("the price's rate", x.priced(0, 0), 1000 - tenths);
        return x;
    }

    private static int price(int sum, int tenths, int loading) {
        RainIndex x = pricedBy(tenths, loading);
        return x.cover(x.sell(0, 0, sum, 2), 4);
    }

    /** "The price is the sum times the price's rate .. divided by 1000" */
    private static void thePriceIsRoundedDown() {
        Check.same("999 of 1000", price(999, 999, 0), 0);
        Check.same("1000 of 1000", price(1000, 999, 0), 1);
        Check.same("1001 of 1000", price(1001, 999, 0), 1);
        Check.same("1999 of 1000", price(1999, 999, 0), 1);
        Check.same("2000 of 1000", price(2000, 999, 0), 2);
        Check.same("nothing", price(2000, 1000, 200), 0);
        Check.same("all", price(2000, 0, 0), 2000);
        Check.same("1 by all", price(1, 0, 0), 1);
        Check.same("1 by 999", price(1, 1, 200), 0);
    }

    /** "and as much as the loading, 30 hundredths at first, of that, rounded down" */
    private static void theLoadingIsRoundedDown() {
        Check.same("30 of 3", price(3, 0, 30), 3);
        Check.same("30 of 4", price(4, 0, 30), 5);
        Check.same("30 of 6", price(6, 0, 30), 7);
        Check.same("30 of 7", price(7, 0, 30), 9);
        Check.same("1 of 99", price(99, 0, 1), 99);
        Check.same("1 of 100", price(100, 0, 1), 101);
        Check.same("1 of 101", price(101, 0, 1), 102);
        Check.same("0 of 2000", price(2000, 0, 0), 2000);
        Check.same("199 of 2000", price(2000, 0, 199), 5980);
        Check.same("200 of 2000", price(2000, 0, 200), 6000);
        // Of 1999 by 500 thousandths 999 are left; 30 hundredths of these are 299, not of 999.5.
        Check.same("of what is rounded down", price(1999, 500, 30), 999 + 299);
        Check.same("each by itself", price(19, 850, 50), 2 + 1);
        RainIndex x = Scenes.oneFarm();
        x.pass(59);
        x.sell(0, 0, 1000, 1);
        Check.same("30 at first", x.cover(0, 4), 130);
    }

    /** "Sets the loading of prices from now on." */
    private static void theLoadingFromNowOn() {
        RainIndex x = Scenes.oneFarm();
        x.farm(5, 5);
        x.pass(59);
        x.sell(0, 0, 1000, 1);
        x.loading(50);
        Check.same("sold ahead of it", x.cover(0, 4), 130);
        x.sell(1, 0, 1000, 1);
        Check.same("sold behind it", x.cover(1, 4), 150);
        Check.same("all prices", x.books(0), 280);
    }

    /** "all seasons that are over by then"; "100 without any" */
    private static void seasonsThatAreOverByThen() {
        int[] days = {58, 59, 60, 61, 118, 119, 120, 121, 179, 180};
        int[] due = {100, 100, 600, 600, 600, 600, 700, 700, 700, 800};
        for (int i = 0; i < days.length; i++) {
            RainIndex x = Scenes.oneFarm();
            Scenes.passTo(x, 54);
            Scenes.lateOnset(x, 0, 0, 400);
            Scenes.passTo(x, Math.min(114, days[i]));
            if (days[i] >= 114) {
                Scenes.lateOnset(x, 0, 1, 200);
            }
            Scenes.passTo(x, days[i]);
            Check.same("on day " + days[i], x.priced(0, 0), due[i]);
        }
        RainIndex y = Scenes.oneFarm();
        Scenes.passTo(y, 59);
        Scenes.lateOnset(y, 0, 0, 400);
        y.sell(0, 0, 1000, 1);
        Check.same("sold while none is over", y.cover(0, 4), 100 + 30);
        Scenes.passTo(y, 119);
        y.sell(0, 0, 1000, 2);
        Check.same("sold while one is over", y.cover(1, 4), 600 + 180);
    }

    /** "also of those without any data" */
    private static void seasonsWithoutAnyData() {
        RainIndex x = Scenes.oneFarm();
        for (int season = 0; season < 20; season++) {
            Scenes.passTo(x, 60 * season);
            Check.same("over: " + season, x.priced(0, 0), season == 0 ? 100 : 1000);
        }
        Scenes.passTo(x, 1199);
        Scenes.lateOnset(x, 0, 0, 1000);
        Scenes.lateOnset(x, 0, 18, 1000);
        Scenes.lateOnset(x, 0, 19, 1000);
        Check.same("17 of 19", x.priced(0, 0), 17000 / 19);
    }

    /** "divided by how many there are" */
    private static void dividedByHowManyThereAre() {
        int[] tenths = {0, 1, 2, 997, 998, 999, 1000};
        for (int tenth : tenths) {
            RainIndex x = Scenes.oneFarm();
            Scenes.passTo(x, 180);
            Scenes.lateOnset(x, 0, 0, 1000);
            Scenes.lateOnset(x, 0, 1, 1000);
            Scenes.lateOnset(x, 0, 2, tenth);
            Check.same("a third of 1000 less " + tenth, x.priced(0, 0), (1000 - tenth) / 3);
        }
    }

    /** "data known as the product tells" */
    private static void pricedByDataAsTheProductTells() {
        RainIndex x = Scenes.oneFarm();
        Scenes.slope(x, Scenes.REVISED);
        x.farm(5, 5);
        x.farm(5, 5);
        x.farm(5, 5);
        Scenes.passTo(x, 119);
        Scenes.lateOnset(x, 0, 0, 500);
        x.sell(0, 0, 1000, 2);
        x.sell(1, 1, 1000, 2);
        Scenes.tell(x, 0, 0, 54, 900);
        x.sell(2, 0, 1000, 2);
        x.sell(3, 1, 1000, 2);
        int[] due = {650, 650, 650, 130};
        for (int cover = 0; cover < 4; cover++) {
            Check.same("the price of " + cover, x.cover(cover, 4), due[cover]);
        }
    }

    private static int stateShare(int sum, int tenths, int loading) {
        RainIndex x = pricedBy(tenths, loading);
        return x.cover(x.sell(0, 0, sum, 2), 5);
    }

    /** "The price times what the sum is, at most 500, divided by the sum, rounded down" */
    private static void theSumAtMost500() {
        Check.same("499", stateShare(499, 0, 0), 249);
        Check.same("500", stateShare(500, 0, 0), 250);
        Check.same("501", stateShare(501, 0, 0), 250);
        Check.same("1000", stateShare(1000, 0, 0), 250);
        Check.same("2000", stateShare(2000, 0, 0), 250);
        Check.same("1", stateShare(1, 0, 100), 1);
        Check.same("499, twice as dear", stateShare(499, 0, 100), 499);
        Check.same("501, twice as dear", stateShare(501, 0, 100), 500);
        // 733 * 500 / 733 is 500, 734 by 500 thousandths 367: 367 * 500 / 734 is 250; 733's 366 are 249.6.
        Check.same("rounded down from 249.6", stateShare(733, 500, 0), 124);
        Check.same("just 250", stateShare(734, 500, 0), 125);
        Check.same("rounded down to 0", stateShare(2000, 999, 50), 0);
    }

    /** "and the half of that, rounded down" */
    private static void theHalfIsRoundedDown() {
        Check.same("of 1", stateShare(1, 0, 0), 0);
        Check.same("of 2", stateShare(2, 0, 0), 1);
        Check.same("of 3", stateShare(3, 0, 0), 1);
        Check.same("of 4", stateShare(4, 0, 0), 2);
        // 5 * 500 / 1000 is 2, the half of which is 1.
        Check.same("of 2.5", stateShare(1000, 995, 0), 1);
        Check.same("of 1.5", stateShare(1000, 997, 0), 0);
    }

    /** "is what the state pays; the farm pays the rest" */
    private static void theFarmPaysTheRest() {
        int[] sums = {1, 499, 500, 501, 2000};
        for (int sum : sums) {
            RainIndex x = pricedBy(321, 77);
            x.sell(0, 0, sum, 2);
            int price = sum * 679 / 1000 + sum * 679 / 1000 * 77 / 100;
            int share = price * Math.min(sum, 500) / sum / 2;
            Check.same("the price of " + sum, x.cover(0, 4), price);
            Check.same("the state's of " + sum, x.cover(0, 5), share);
            Check.same("the farm's of " + sum, x.told(0, 4), price - share);
            Check.same("all prices by " + sum, x.books(0), price);
            Check.same("all of the state's by " + sum, x.books(1), share);
            Check.same("what the insurer has by " + sum, x.books(4), price);
        }
    }
}
