/** The boundary cases under "Payouts" from complaints on, a test for each sentence that names one. */
public final class SecondLooksBoundsTest {
    public static void main(String[] args) {
        aSeasonThatIsSettled();
        onceAboutEachCover();
        upTo20DaysBehind();
        moreThanHalf();
        ofItsStationWithACoverOfThatSeason();
        aLossIsToldOfOne();
        whetherItComplainedOrNot();
        behindAComplaint();
        aSecondLookOnce();
        onceForEachStationAndSeason();
        theMeanRoundedDown();
        theMeanOfThese();
        theMeanAtItsLimit();
        aTenthOfItsRateRoundedDown();
        meansOf20AndOf100();
        theSumTimesTheMeanLess20();
        lessWhatItWasPaid();
        noCapCutsThat();
        theInsurerCarriesIt();
        noDebtIsSetOff();
        nothingElseIsChanged();
        Check.report("SecondLooksBoundsTest");
    }

    /** On day 120: season 1 is settled, covers of these sums have a rate of 1000 less the tenths. */
    private static RainIndex settled(int tenths, int... sums) {
        RainIndex x = over(tenths, sums);
        x.settle(1);
        return x;
    }

    private static RainIndex over(int tenths, int... sums) {
        RainIndex x = Scenes.coversOfSeason1(sums);
        Scenes.lateOnset(x, 0, 1, tenths);
        x.pass(1);
        return x;
    }

    /** Settled without any pay, as retention and layer are 0. */
    private static RainIndex settledUnpaid(int tenths, int... sums) {
        RainIndex x = over(tenths, sums);
        x.layer(0, 0);
        x.settle(1);
        return x;
    }

    private static void losses(RainIndex x, int... losses) {
        for (int farm = 0; farm < losses.length; farm++) {
            if (losses[farm] != Scenes.NONE) {
                x.loss(farm, 1, losses[farm]);
            }
        }
    }

    private static int complainAll(RainIndex x, int farms) {
        int more = 0;
        for (int farm = 0; farm < farms; farm++) {
            more += x.complain(farm, 1);
        }
        return more;
    }

    /** "its cover of a season that is settled" */
    private static void aSeasonThatIsSettled() {
        RainIndex x = over(1000, 100);
        Check.refused("over, but not settled", Scenes.STATE, () -> x.complain(0, 1));
        x.loss(0, 1, 70);
        x.settle(1);
        Check.refused("a season without a cover that is not settled", Scenes.STATE, () -> x.complain(0, 0));
        x.settle(0);
        Check.refused("a season without a cover that is settled", Scenes.STATE, () -> x.complain(0, 0));
        Check.same("settled", x.complain(0, 1), 50);
        RainIndex y = Scenes.coversOfSeason1(100);
        Check.refused("on its last day", Scenes.STATE, () -> y.complain(0, 1));
    }

    /** "A farm can complain, once, about its cover": about each of its covers. */
    private static void onceAboutEachCover() {
        RainIndex x = Scenes.oneFarm();
        for (int season = 1; season <= 2; season++) {
            Scenes.passTo(x, 60 * season - 1);
            x.sell(0, 0, 100, season);
        }
        Scenes.passTo(x, 180);
        Scenes.lateOnset(x, 0, 1, 1000);
        Scenes.lateOnset(x, 0, 2, 1000);
        x.loss(0, 1, 30);
        x.loss(0, 2, 40);
        x.settle(1);
        x.settle(2);
        Check.same("about the first", x.complain(0, 1), 10);
        Check.refused("again about the first", Scenes.STATE, () -> x.complain(0, 1));
        Check.same("about the second", x.complain(0, 2), 20);
        Check.refused("again about the second", Scenes.STATE, () -> x.complain(0, 2));
        x.loss(0, 1, 100);
        Check.refused("with another loss", Scenes.STATE, () -> x.complain(0, 1));
    }

    /** "up to 20 days behind the day on which it was" */
    private static void upTo20DaysBehind() {
        int[] settledOn = {120, 133, 400};
        for (int day : settledOn) {
            for (int days = 0; days <= 20; days += days == 0 ? 1 : days == 1 ? 18 : 1) {
                RainIndex x = over(1000, 100);
                Scenes.passTo(x, day);
                x.settle(1);
                x.loss(0, 1, 70);
                Scenes.passTo(x, day + days);
                Check.same("settled on " + day + ", days behind: " + days, x.complain(0, 1), 50);
            }
            for (int days = 21; days <= 22; days++) {
                RainIndex x = over(1000, 100);
                Scenes.passTo(x, day);
                x.settle(1);
                x.loss(0, 1, 70);
                Scenes.passTo(x, day + days);
                Check.refused("settled on " + day + ", days behind: " + days, Scenes.STATE, () -> x.complain(0, 1));
            }
        }
    }

    /** "more than half of all farms": how many of so many must complain until there is a second look. */
    private static void moreThanHalf() {
        int[] needed = {1, 2, 2, 3, 3, 4, 4};
        for (int farms = 1; farms <= needed.length; farms++) {
            int[] sums = new int[farms];
            java.util.Arrays.fill(sums, 100);
            RainIndex x = settled(1000, sums);
            x.loss(0, 1, 70);
            for (int farm = 0; farm < farms; farm++) {
                Check.same("complaint " + (farm + 1) + " of " + farms, x.complain(farms - 1 - farm, 1),
                        farm + 1 == needed[farms - 1] ? 50 * farms : 0);
            }
        }
    }

    /** Station 0 has farms 0 and 1, station 1 has farms 2, 3 and 4; all but farm 4 have covers of season 1. */
    private static RainIndex twoStations() {
        RainIndex x = new RainIndex();
        x.station(0, 0);
        x.station(9, 9);
        Scenes.slope(x, Scenes.FIRST);
        x.farm(0, 0);
        x.farm(0, 1);
        x.farm(9, 9);
        x.farm(9, 8);
        x.farm(8, 9);
        x.pass(59);
        for (int farm = 0; farm < 4; farm++) {
            x.sell(farm, 0, 100, 1);
        }
        Scenes.passTo(x, 119);
        x.sell(4, 0, 100, 2);
        x.pass(1);
        Scenes.lateOnset(x, 0, 1, 1000);
        x.settle(1);
        return x;
    }

    /** "of its station with a cover of that season" */
    private static void ofItsStationWithACoverOfThatSeason() {
        RainIndex x = twoStations();
        losses(x, 70, 70, 50, 50, 100);
        Check.same("1 of 2 here", x.complain(0, 1), 0);
        Check.same("1 of 2 there", x.complain(2, 1), 0);
        Check.refused("without a cover of that season", Scenes.STATE, () -> x.complain(4, 1));
        Check.same("2 of 2 there", x.complain(3, 1), 60);
        Check.same("nothing so far here", x.cover(0, 8), 0);
        Check.same("2 of 2 here", x.complain(1, 1), 100);
        Check.same("nothing more there", x.cover(2, 8), 30);
        Check.same("nothing to the cover of another season", x.cover(4, 8), 0);
    }

    /** "and a loss is told of one of all these farms" */
    private static void aLossIsToldOfOne() {
        RainIndex x = settled(1000, 100, 100, 100);
        Check.same("none is told", complainAll(x, 3), 0);
        RainIndex y = settled(1000, 100, 100, 100);
        losses(y, Scenes.NONE, Scenes.NONE, 70);
        Check.same("one is told", complainAll(y, 3), 150);
        RainIndex z = twoStations();
        losses(z, Scenes.NONE, Scenes.NONE, 70, 70, 70);
        z.loss(0, 0, 100);
        z.loss(1, 2, 100);
        Check.same("of another station and other seasons", z.complain(0, 1) + z.complain(1, 1), 0);
        RainIndex n = twoStations();
        losses(n, 70, 70, Scenes.NONE, Scenes.NONE, 70);
        Check.same("of a farm of its station without a cover", n.complain(2, 1) + n.complain(3, 1), 0);
    }

    /** "whether it complained or not" */
    private static void whetherItComplainedOrNot() {
        RainIndex x = settled(1000, 100, 100, 100);
        losses(x, Scenes.NONE, Scenes.NONE, 60);
        Check.same("of one that did not", complainAll(x, 2), 120);
        RainIndex y = settled(1000, 100, 100, 100);
        losses(y, 60, Scenes.NONE, Scenes.NONE);
        Check.same("of one that did", complainAll(y, 2), 120);
        RainIndex z = settled(1000, 100, 100, 100);
        losses(z, 60, Scenes.NONE, 30);
        Check.same("the mean is of both", complainAll(z, 2), 75);
        Check.same("paid to one that did not complain", z.cover(2, 8), 25);
    }

    /** "If behind a complaint": a loss that is told later changes nothing by itself. */
    private static void behindAComplaint() {
        RainIndex x = settled(1000, 100, 100, 100);
        Check.same("most complained, none is told", complainAll(x, 2), 0);
        x.loss(1, 1, 70);
        Check.same("told, but no complaint behind it", x.cover(1, 8), 0);
        Check.same("the books", x.books(2), 0);
        Check.same("a complaint behind it", x.complain(2, 1), 150);
        RainIndex y = settled(1000, 100, 100);
        Check.same("all complained, none is told", complainAll(y, 2), 0);
        y.loss(1, 1, 70);
        Check.same("nobody is left to complain", y.books(2), 0);
    }

    /** "there is a second look, once" */
    private static void aSecondLookOnce() {
        RainIndex x = settled(1000, 100, 100, 100, 100);
        losses(x, 50);
        Check.same("the look behind the third", complainAll(x, 3), 120);
        losses(x, 100, 100, 100, 100);
        Check.same("none behind the fourth", x.complain(3, 1), 0);
        Check.same("paid once", x.cover(0, 8), 30);
        RainIndex y = settled(1000, 100, 100, 100, 100);
        losses(y, 20);
        Check.same("a look that pays nothing", complainAll(y, 3), 0);
        losses(y, 100, 100, 100, 100);
        Check.same("is the one", y.complain(3, 1), 0);
        RainIndex z = settled(1000, 100, 100, 100);
        losses(z, 21);
        Check.same("a look that pays least", complainAll(z, 2), 3);
        Check.same("and no more", z.complain(2, 1), 0);
    }

    private static void onceForEachStationAndSeason() {
        RainIndex x = twoStations();
        losses(x, 70, 70, 50, 50, 100);
        Check.same("one here", x.complain(0, 1) + x.complain(1, 1), 100);
        Check.same("one there", x.complain(2, 1) + x.complain(3, 1), 60);
        Scenes.passTo(x, 180);
        Scenes.lateOnset(x, 0, 2, 1000);
        x.settle(2);
        x.loss(4, 2, 40);
        Check.same("one there of another season", x.complain(4, 2), 20);
    }

    private static void mean(String what, int due, int... losses) {
        int[] sums = new int[losses.length];
        java.util.Arrays.fill(sums, 100);
        RainIndex x = settled(1000, sums);
        losses(x, losses);
        complainAll(x, losses.length / 2 + 1);
        for (int cover = 0; cover < losses.length; cover++) {
            Check.same("the mean " + what, x.cover(cover, 8), due - 20);
        }
    }

    /** "with the mean of the losses told of these, rounded down" */
    private static void theMeanRoundedDown() {
        mean("of 50", 50, 50);
        mean("of 50 and 51", 50, 50, 51);
        mean("of 51 and 51", 51, 51, 51);
        mean("of 50, 50 and 51", 50, 50, 50, 51);
        mean("of 50, 51 and 51", 50, 50, 51, 51);
        mean("of 50, 51 and 52", 51, 50, 51, 52);
        mean("of 0 and 99", 49, 0, 99);
        mean("of 0 and 100", 50, 0, 100);
    }

    /** Farms without a loss told are not of it, those with one of 0 are. */
    private static void theMeanOfThese() {
        mean("of 90 alone", 90, 90, Scenes.NONE, Scenes.NONE);
        mean("of 90 and 0", 45, 90, 0, Scenes.NONE);
        mean("of 90, 0 and 0", 30, 90, 0, 0);
        RainIndex x = settled(1000, 100, 100);
        losses(x, 90, 10);
        x.loss(1, 1, 70);
        Check.same("of those told the latest", complainAll(x, 2), 120);
        RainIndex y = twoStations();
        losses(y, 0, 0, 90, Scenes.NONE, 10);
        Check.same("of those of its station with a cover", y.complain(2, 1) + y.complain(3, 1), 140);
    }

    private static void look(String what, int tenths, int loss, int more) {
        RainIndex x = settledUnpaid(tenths, 1000);
        x.loss(0, 1, loss);
        Check.same(what, x.complain(0, 1), more);
        Check.same(what + ", the cover", x.cover(0, 8), more);
    }

    /** "by which a tenth of its rate .. and 20, together, is less than the mean" */
    private static void theMeanAtItsLimit() {
        look("60 and 20, a mean of 79", 400, 79, 0);
        look("60 and 20, a mean of 80", 400, 80, 0);
        look("60 and 20, a mean of 81", 400, 81, 610);
        look("60 and 20, a mean of 82", 400, 82, 620);
        look("0 and 20, a mean of 19", 1000, 19, 0);
        look("0 and 20, a mean of 20", 1000, 20, 0);
        look("0 and 20, a mean of 21", 1000, 21, 10);
        look("80 and 20, a mean of 100", 200, 100, 0);
        look("79 and 20, a mean of 100", 210, 100, 800);
        look("100 and 20, a mean of 100", 0, 100, 0);
    }

    /** "a tenth of its rate, rounded down" */
    private static void aTenthOfItsRateRoundedDown() {
        look("599, a mean of 80", 401, 80, 600);
        look("600, a mean of 80", 400, 80, 0);
        look("609, a mean of 81", 391, 81, 610);
        look("610, a mean of 81", 390, 81, 0);
        look("9, a mean of 21", 991, 21, 10);
        look("10, a mean of 21", 990, 21, 0);
        look("799, a mean of 100", 201, 100, 800);
        look("800, a mean of 100", 200, 100, 0);
    }

    private static void meansOf20AndOf100() {
        look("a mean of 0", 1000, 0, 0);
        look("a mean of 1", 1000, 1, 0);
        look("a mean of 99", 1000, 99, 790);
        look("a mean of 100", 1000, 100, 800);
    }

    private static void moreOf(int sum, int loss, int more) {
        RainIndex x = settled(1000, sum);
        x.loss(0, 1, loss);
        Check.same("more to a sum of " + sum + " by a mean of " + loss, x.complain(0, 1), more);
    }

    /** "its sum times the mean less 20, divided by 100" */
    private static void theSumTimesTheMeanLess20() {
        moreOf(100, 21, 1);
        moreOf(99, 21, 0);
        moreOf(199, 21, 1);
        moreOf(200, 21, 2);
        moreOf(1, 100, 0);
        moreOf(2, 70, 1);
        moreOf(2, 69, 0);
        moreOf(1999, 100, 1599);
        moreOf(2000, 100, 1600);
        moreOf(3, 53, 0);
        moreOf(3, 54, 1);
    }

    private static void moreThanPaid(String what, int tenths, int sum, int retention, int loss, int paid, int more) {
        RainIndex x = over(tenths, sum);
        x.layer(retention, 0);
        Check.same("paid, " + what, x.settle(1), paid);
        x.loss(0, 1, loss);
        Check.same("more, " + what, x.complain(0, 1), more);
        Check.same("in all, " + what, x.cover(0, 8), paid + more);
        Check.same("the farm's, " + what, x.told(0, 3), paid + more);
    }

    /** "less what it was paid, if that is above 0" */
    private static void lessWhatItWasPaid() {
        moreThanPaid("as much", 391, 10, 5000, 81, 6, 0);
        moreThanPaid("1 more", 391, 1000, 5000, 81, 609, 1);
        moreThanPaid("2 more", 391, 2000, 5000, 81, 1218, 2);
        moreThanPaid("far more", 600, 1000, 5000, 100, 400, 400);
        moreThanPaid("more than what was cut", 600, 1000, 100, 90, 100, 600);
        moreThanPaid("more than nothing", 600, 1000, 0, 90, 0, 700);
        RainIndex x = settled(391, 10, 1000);
        losses(x, 81, 81);
        Check.same("none to one, 1 to another", complainAll(x, 2), 1);
        Check.same("none", x.cover(0, 8), 6);
        Check.same("1", x.cover(1, 8), 610);
    }

    /** "No cap cuts that" */
    private static void noCapCutsThat() {
        RainIndex x = over(1000, 2000, 2000);
        x.layer(10, 10);
        x.settle(1);
        losses(x, 100, 100);
        Check.same("far above both together", complainAll(x, 2), 3200);
        RainIndex y = over(500, 1000, 1000);
        y.layer(100, 100);
        Check.same("cut to both together", y.settle(1), 200);
        losses(y, 90, 90);
        Check.same("above both together", complainAll(y, 2), 600 + 600);
        Check.same("700 in all", y.cover(1, 8), 700);
    }

    /** "the insurer carries it" */
    private static void theInsurerCarriesIt() {
        RainIndex x = over(500, 1000, 1000);
        x.layer(300, 900);
        x.settle(1);
        Check.same("carried ahead of it", x.books(3), 700);
        losses(x, 90, 90);
        Check.same("the look", complainAll(x, 2), 400);
        Check.same("carried behind it", x.books(3), 700);
        Check.same("paid in all", x.books(2), 1400);
        Check.same("what the insurer has", x.books(4), x.books(0) + 700 - 1400);
    }

    /** "no debt is set off" */
    private static void noDebtIsSetOff() {
        RainIndex x = over(500, 1000);
        x.lend(0, 800);
        x.settle(1);
        Check.same("set off ahead of it", x.cover(0, 9), 500);
        x.loss(0, 1, 90);
        Check.same("the look", x.complain(0, 1), 200);
        Check.same("set off behind it", x.cover(0, 9), 500);
        Check.same("the debt behind it", x.told(0, 2), 300);
        Check.same("what it got", x.told(0, 3), 200);
        Check.same("paid with the second look", x.cover(0, 8), 700);
    }

    private static void nothingElseIsChanged() {
        RainIndex x = settledUnpaid(1000, 1000);
        x.loss(0, 1, 100);
        Check.same("trust ahead of it", x.told(0, 1), 50);
        Check.same("the look", x.complain(0, 1), 800);
        int[] facts = {0, 0, 1000, 1, 130, 32, 0, 0, 800, 0};
        for (int what = 0; what < facts.length; what++) {
            Check.same("cover(0, " + what + ")", x.cover(0, what), facts[what]);
        }
        Check.same("trust behind it", x.told(0, 1), 50);
        Check.same("due anew", x.dueAnew(0), 0);
        Check.same("the loss told", x.loss(0, 1, 5), 100);
        Check.same("all prices", x.books(0), 130);
        Check.same("the state's", x.books(1), 32);
    }
}
