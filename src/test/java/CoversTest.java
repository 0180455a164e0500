/** Promises 11, 12, 14, 21, 22 and 24: sales, payouts, complaints, and what is told of covers and in the books. */
public final class CoversTest {
    public static void main(String[] args) {
        promise11Window();
        promise11Prices();
        promise11OneForEachFarmAndSeason();
        promise11SixtyCovers();
        promise11Trust();
        promise11WrongInputs();
        promise12Settle();
        promise12CutsAllAlike();
        promise12SetsOffDebts();
        promise12WrongInputs();
        promise14SecondLook();
        promise14ByWhichRates();
        promise14LessWhatWasPaid();
        promise14MostOfTheStation();
        promise14Once();
        promise14WhoseLosses();
        promise14Days();
        promise14WrongInputs();
        promise21Cover();
        promise22DueAnew();
        promise24Books();
        Check.report("CoversTest");
    }

    private static void promise11Window() {
        RainIndex x = Scenes.oneFarm();
        x.farm(1, 1);
        Check.refused("11: the season of today", Scenes.STATE, () -> x.sell(0, 0, 100, 0));
        x.pass(29);
        Check.refused("11: 31 days ahead", Scenes.STATE, () -> x.sell(0, 0, 100, 1));
        x.pass(1);
        Check.same("11: 30 days ahead", x.sell(0, 0, 100, 1), 0);
        Check.refused("11: the season behind", Scenes.STATE, () -> x.sell(1, 0, 100, 2));
        x.pass(29);
        Check.same("11: the day ahead", x.sell(1, 0, 100, 1), 1);
        x.farm(2, 2);
        x.pass(1);
        Check.refused("11: its first day", Scenes.STATE, () -> x.sell(2, 0, 100, 1));
        Scenes.passTo(x, 1139);
        Check.same("11: the last season", x.sell(2, 0, 100, 19), 2);
    }

    private static void pricesAre(RainIndex x, int cover, int price, int share) {
        Check.same("11: price of " + cover, x.cover(cover, 4), price);
        Check.same("11: the state's of " + cover, x.cover(cover, 5), share);
    }

    private static void promise11Prices() {
        RainIndex x = Scenes.oneFarm();
        for (int i = 0; i < 6; i++) {
            x.farm(5, 5);
        }
        Scenes.passTo(x, 59);
        x.sell(0, 0, 999, 1);
        x.sell(1, 0, 500, 1);
        x.sell(2, 0, 501, 1);
        x.sell(3, 0, 1, 1);
        x.sell(4, 0, 2000, 1);
        x.sell(5, 0, 499, 1);
        pricesAre(x, 0, 99 + 29, 32);
        pricesAre(x, 1, 50 + 15, 32);
        pricesAre(x, 2, 50 + 15, 32);
        pricesAre(x, 3, 0, 0);
        pricesAre(x, 4, 200 + 60, 32);
        pricesAre(x, 5, 49 + 14, 31);
        Scenes.lateOnset(x, 0, 0, 327);
        Scenes.passTo(x, 90);
        x.sell(0, 0, 733, 2);
        // 673 thousandths of 733 are 493, with the loading 640; 640 times 500 by 733 is 436.
        pricesAre(x, 6, 493 + 147, 218);
        Scenes.tell(x, 0, 0, 54, 0);
        x.sell(1, 0, 733, 2);
        pricesAre(x, 7, 640, 218);
        RainIndex y = Scenes.oneFarm();
        y.loading(200);
        Scenes.passTo(y, 90);
        y.sell(0, 0, 2000, 2);
        pricesAre(y, 0, 6000, 750);
    }

    private static void promise11OneForEachFarmAndSeason() {
        RainIndex x = Scenes.oneFarm();
        Scenes.slope(x, Scenes.REVISED);
        x.farm(5, 5);
        x.pass(40);
        x.sell(0, 0, 100, 1);
        Check.refused("11: another product", Scenes.STATE, () -> x.sell(0, 1, 100, 1));
        Check.same("11: another farm", x.sell(1, 1, 100, 1), 1);
        Scenes.passTo(x, 100);
        Check.same("11: another season", x.sell(0, 1, 100, 2), 2);
        Check.same("11: what was refused cost nothing", x.books(0), 13 + 13 + 130);
    }

    private static void promise11SixtyCovers() {
        RainIndex x = Scenes.oneFarm();
        for (int i = 1; i < 16; i++) {
            x.farm(5, 5);
        }
        for (int i = 0; i < 60; i++) {
            Scenes.passTo(x, 60 * (i / 16 + 1) - 1);
            Check.same("11: cover " + i, x.sell(i % 16, 0, 10, i / 16 + 1), i);
        }
        Check.refused("11: a 61st", Scenes.STATE, () -> x.sell(12, 0, 10, 4));
        Check.refused("11: a 61st out of range", Scenes.ARGUMENT, () -> x.sell(12, 0, 0, 4));
        Check.same("11: it was not sold", x.told(12, 4), x.told(11, 4) - (x.cover(59, 4) - x.cover(59, 5)));
    }

    private static void promise11Trust() {
        RainIndex x = Scenes.oneFarm();
        for (int season = 1; season <= 3; season++) {
            Scenes.passTo(x, 60 * season - 1);
            x.sell(0, 0, 10, season);
        }
        Scenes.passTo(x, 239);
        x.settle(1);
        x.layer(0, 0);
        x.loss(0, 2, 50);
        x.settle(2);
        x.pass(1);
        x.loss(0, 3, 50);
        x.settle(3);
        Check.same("11: trust is 20 then", x.told(0, 1), 20);
        Scenes.passTo(x, 290);
        Check.same("11: trust of 20 is enough", x.sell(0, 0, 10, 5), 3);
        RainIndex y = Scenes.oneFarm();
        for (int season = 1; season <= 2; season++) {
            Scenes.passTo(y, 60 * season - 1);
            y.sell(0, 0, 10, season);
        }
        Scenes.passTo(y, 200);
        y.layer(0, 0);
        y.loss(0, 1, 50);
        y.loss(0, 2, 50);
        y.settle(1);
        y.settle(2);
        Scenes.passTo(y, 230);
        Check.same("11: trust is 10 then", y.told(0, 1), 10);
        Check.refused("11: trust of 10 is too little", Scenes.STATE, () -> y.sell(0, 0, 10, 4));
    }

    private static void promise11WrongInputs() {
        RainIndex x = Scenes.oneFarm();
        x.pass(30);
        Check.refused("11: no farm", Scenes.INDEX, () -> x.sell(1, 0, 0, 1));
        Check.refused("11: farm -1", Scenes.INDEX, () -> x.sell(-1, 0, 1, 1));
        Check.refused("11: no product", Scenes.INDEX, () -> x.sell(0, 1, 0, 1));
        Check.refused("11: product -1", Scenes.INDEX, () -> x.sell(0, -1, 1, 1));
        Check.refused("11: no season", Scenes.INDEX, () -> x.sell(0, 0, 0, 20));
        Check.refused("11: season -1", Scenes.INDEX, () -> x.sell(0, 0, 1, -1));
        Check.refused("11: sum 0", Scenes.ARGUMENT, () -> x.sell(0, 0, 0, 1));
        Check.refused("11: sum 2001", Scenes.ARGUMENT, () -> x.sell(0, 0, 2001, 1));
        Check.refused("11: sum 2001 out of the window", Scenes.ARGUMENT, () -> x.sell(0, 0, 2001, 5));
        Check.same("11: nothing was sold", x.sell(0, 0, 2000, 1), 0);
    }

    private static void promise12Settle() {
        RainIndex x = Scenes.coversOfSeason1(999, 1000, 1);
        Scenes.lateOnset(x, 0, 1, 300);
        Check.refused("12: its last day", Scenes.STATE, () -> x.settle(1));
        x.pass(1);
        Check.same("12: 700 thousandths of each", x.settle(1), 699 + 700);
        Check.same("12: the first one's rate", x.cover(0, 6), 700);
        Check.same("12: what was due to the first", x.cover(0, 7), 699);
        Check.same("12: what the first was paid", x.cover(0, 8), 699);
        Check.same("12: what the third was paid", x.cover(2, 8), 0);
        Check.refused("12: settled again", Scenes.STATE, () -> x.settle(1));
        Check.same("12: a season without covers", x.settle(0), 0);
        Check.refused("12: that one again", Scenes.STATE, () -> x.settle(0));
        Check.same("12: all that was paid", x.books(2), 1399);
    }

    private static void promise12CutsAllAlike() {
        RainIndex x = Scenes.coversOfSeason1(2000, 1000, 333);
        x.pass(1);
        x.layer(1000, 500);
        Check.same("12: all that is paid", x.settle(1), 900 + 450 + 149);
        int[] paid = {900, 450, 149};
        for (int i = 0; i < 3; i++) {
            Check.same("12: paid to " + i, x.cover(i, 8), paid[i]);
        }
        Check.same("12: due to the first", x.cover(0, 7), 2000);
        Check.same("12: the backer's", x.books(3), 499);
        RainIndex y = Scenes.coversOfSeason1(2000, 1000, 333);
        y.pass(1);
        y.layer(0, 3333);
        Check.same("12: just as much as both together", y.settle(1), 3333);
        Check.same("12: all of it is the backer's", y.books(3), 3333);
        RainIndex z = Scenes.coversOfSeason1(2000, 1000, 333);
        z.pass(1);
        z.layer(3333, 0);
        Check.same("12: no cut by the retention alone", z.settle(1), 3333);
        Check.same("12: nothing is the backer's", z.books(3), 0);
        RainIndex n = Scenes.coversOfSeason1(2000);
        n.pass(1);
        n.layer(0, 0);
        Check.same("12: nothing is left", n.settle(1), 0);
        Check.same("12: but it was due", n.cover(0, 7), 2000);
        RainIndex a = Scenes.coversOfSeason1(2000, 2000, 2000, 2000, 2000);
        a.pass(1);
        Check.same("12: 5000 and 5000 at first", a.settle(1), 10000);
        Check.same("12: the backer's by these", a.books(3), 5000);
        RainIndex b = Scenes.coversOfSeason1(2000, 2000, 2000, 2000, 2000, 1);
        b.pass(1);
        Check.same("12: one more than these cuts all", b.settle(1), 5 * 1999);
        Check.same("12: the backer's then", b.books(3), 4995);
    }

    private static void promise12SetsOffDebts() {
        RainIndex x = Scenes.coversOfSeason1(2000, 1000, 333);
        x.pass(1);
        x.layer(1000, 500);
        x.lend(1, 100);
        x.lend(2, 1000);
        x.settle(1);
        Check.same("12: no debt, nothing set off", x.cover(0, 9), 0);
        Check.same("12: set off", x.cover(1, 9), 100);
        Check.same("12: paid, with what is set off", x.cover(1, 8), 450);
        Check.same("12: the rest is its own", x.told(1, 3), 350);
        Check.same("12: no debt is left", x.told(1, 2), 0);
        Check.same("12: all is set off", x.cover(2, 9), 149);
        Check.same("12: nothing is its own", x.told(2, 3), 0);
        Check.same("12: some debt is left", x.told(2, 2), 851);
    }

    private static void promise12WrongInputs() {
        RainIndex x = Scenes.oneFarm();
        Check.refused("12: settle(20)", Scenes.INDEX, () -> x.settle(20));
        Check.refused("12: settle(-1)", Scenes.INDEX, () -> x.settle(-1));
        Check.refused("12: settle(0) at once", Scenes.STATE, () -> x.settle(0));
        Scenes.passTo(x, 1199);
        Check.refused("12: the last season is never over", Scenes.STATE, () -> x.settle(19));
        Check.same("12: the one ahead of it is", x.settle(18), 0);
    }

    /** As coversOfSeason1, each with a rate of 1000 less the tenths, settled on day 120. */
    private static RainIndex settled(int tenths, int... sums) {
        RainIndex x = Scenes.coversOfSeason1(sums);
        Scenes.lateOnset(x, 0, 1, tenths);
        x.pass(1);
        x.settle(1);
        return x;
    }

    private static void promise14SecondLook() {
        RainIndex x = settled(630, 1000, 100, 10);
        x.lend(0, 500);
        x.loss(0, 1, 90);
        x.loss(1, 1, 81);
        Check.same("14: one of three", x.complain(0, 1), 0);
        Check.same("14: nothing more so far", x.cover(0, 8), 370);
        // The mean is 85, and 37 and 20 is less: 65 hundredths of each, less what it was paid.
        Check.same("14: two of three", x.complain(2, 1), 280 + 28 + 3);
        Check.same("14: more to the first", x.cover(0, 8), 650);
        Check.same("14: more to one that did not complain", x.cover(1, 8), 65);
        Check.same("14: more to one of which no loss is told", x.cover(2, 8), 6);
        Check.same("14: what was due stays", x.cover(0, 7), 370);
        Check.same("14: its rate stays", x.cover(0, 6), 370);
        Check.same("14: no debt is set off", x.told(0, 2), 500);
        Check.same("14: nothing set off of the cover", x.cover(0, 9), 0);
        Check.same("14: the farm got it", x.told(0, 3), 650);
        Check.same("14: trust stays", x.told(0, 1), 60);
        Check.same("14: all that was paid", x.books(2), 650 + 65 + 6);
        Check.same("14: the backer carries nothing", x.books(3), 0);
    }

    /** Four covers of 1000 each, whose rates are 650, 640, 649 and 660. */
    private static RainIndex coversOfNearRates() {
        RainIndex x = Scenes.oneStation();
        for (int weight = 64; weight <= 66; weight++) {
            x.phase(1, false, 9999, 351, weight);
            x.product(Scenes.FIRST);
        }
        Scenes.slope(x, Scenes.FIRST);
        x.pass(40);
        int[] products = {1, 0, 3, 2};
        for (int i = 0; i < 4; i++) {
            x.farm(5, 5);
            x.sell(i, products[i], 1000, 1);
        }
        Scenes.passTo(x, 120);
        Scenes.lateOnset(x, 0, 1, 351);
        x.loss(0, 1, 85);
        return x;
    }

    private static int complaintsOfThree(RainIndex x) {
        return x.complain(0, 1) + x.complain(1, 1) + x.complain(2, 1);
    }

    private static void promise14ByWhichRates() {
        RainIndex x = coversOfNearRates();
        x.settle(1);
        Check.same("14: 64 and 20 is less than 85, 65 and 20 is not", complaintsOfThree(x), 10 + 1);
        int[] paid = {650, 650, 650, 660};
        for (int i = 0; i < 4; i++) {
            Check.same("14: paid to " + i, x.cover(i, 8), paid[i]);
        }
        RainIndex y = coversOfNearRates();
        y.layer(0, 0);
        y.settle(1);
        Check.same("14: by rates, though all were cut to nothing", complaintsOfThree(y), 650 + 650);
        int[] more = {0, 650, 650, 0};
        for (int i = 0; i < 4; i++) {
            Check.same("14: paid but for the cut to " + i, y.cover(i, 8), more[i]);
        }
        RainIndex z = settled(1000, 1, 3);
        z.loss(0, 1, 69);
        z.complain(0, 1);
        Check.same("14: 49 hundredths of 1, and of 3", z.complain(1, 1), 1);
        Check.same("14: 49 hundredths of 1", z.cover(0, 8), 0);
    }

    private static void promise14LessWhatWasPaid() {
        RainIndex x = Scenes.coversOfSeason1(1000, 500);
        Scenes.lateOnset(x, 0, 1, 500);
        x.pass(1);
        x.layer(100, 50);
        x.lend(0, 30);
        Check.same("14: cut to 150", x.settle(1), 150);
        x.loss(1, 1, 100);
        x.complain(0, 1);
        Check.same("14: no cap cuts it", x.complain(1, 1), 700 + 350);
        Check.same("14: paid with the second look", x.cover(0, 8), 800);
        Check.same("14: the farm got all but what was set off", x.told(0, 3), 770);
        Check.same("14: the backer's stays", x.books(3), 50);
        Check.same("14: the insurer's", x.books(4), x.books(0) + 50 - 1200);
    }

    private static void promise14MostOfTheStation() {
        RainIndex x = settled(1000, 100, 100, 100, 100);
        x.loss(3, 1, 70);
        Check.same("14: 1 of 4", x.complain(0, 1), 0);
        Check.same("14: 2 of 4", x.complain(1, 1), 0);
        Check.same("14: 3 of 4", x.complain(2, 1), 200);
        RainIndex y = new RainIndex();
        y.station(0, 0);
        y.station(9, 9);
        Scenes.slope(y, Scenes.FIRST);
        y.farm(0, 0);
        y.farm(9, 9);
        y.farm(9, 8);
        y.farm(0, 1);
        y.pass(40);
        for (int farm = 0; farm < 3; farm++) {
            y.sell(farm, 0, 100, 1);
        }
        Scenes.passTo(y, 100);
        y.sell(3, 0, 100, 2);
        Scenes.passTo(y, 120);
        Scenes.lateOnset(y, 0, 1, 1000);
        y.settle(1);
        y.loss(0, 1, 60);
        y.loss(1, 1, 80);
        Check.same("14: 1 of 1 at its station with a cover of that season", y.complain(0, 1), 40);
        Check.same("14: 1 of 2 at the other station", y.complain(1, 1), 0);
        Check.same("14: 2 of 2 at the other station", y.complain(2, 1), 120);
        Check.same("14: the other station's are paid by their own mean", y.cover(0, 8), 40);
    }

    private static void promise14Once() {
        RainIndex x = settled(1000, 100, 100, 100);
        Check.same("14: no loss is told", x.complain(0, 1), 0);
        Check.same("14: most complained, no loss is told", x.complain(1, 1), 0);
        x.loss(0, 1, 50);
        Check.same("14: a loss told pays nothing by itself", x.cover(0, 8), 0);
        Check.same("14: behind the next complaint", x.complain(2, 1), 90);
        RainIndex y = settled(1000, 100, 100, 100);
        y.loss(0, 1, 50);
        y.complain(0, 1);
        Check.same("14: the look", y.complain(1, 1), 90);
        y.loss(0, 1, 100);
        Check.same("14: no other look", y.complain(2, 1), 0);
        Check.same("14: nothing more", y.cover(0, 8), 30);
        RainIndex z = settled(1000, 100, 100, 100);
        z.loss(0, 1, 20);
        z.complain(0, 1);
        Check.same("14: a look that pays nothing", z.complain(1, 1), 0);
        z.loss(0, 1, 100);
        Check.same("14: was the look", z.complain(2, 1), 0);
    }

    private static void promise14WhoseLosses() {
        RainIndex x = Scenes.coversOfSeason1(100, 100);
        x.farm(5, 5);
        Scenes.lateOnset(x, 0, 1, 1000);
        x.pass(1);
        x.settle(1);
        x.loss(2, 1, 100);
        x.loss(0, 0, 100);
        x.complain(0, 1);
        Check.same("14: no loss of that season of one with a cover", x.complain(1, 1), 0);
        RainIndex y = Scenes.coversOfSeason1(100, 100, 100);
        y.farm(5, 5);
        Scenes.lateOnset(y, 0, 1, 1000);
        y.pass(1);
        y.settle(1);
        y.loss(3, 1, 100);
        y.loss(0, 1, 0);
        y.loss(1, 1, 90);
        y.loss(2, 1, 45);
        y.complain(0, 1);
        Check.same("14: a loss of 0 is told, too", y.complain(1, 1), 75);
    }

    private static void promise14Days() {
        RainIndex x = settled(1000, 100, 100);
        x.loss(0, 1, 50);
        x.pass(20);
        Check.same("14: 20 days behind", x.complain(0, 1), 0);
        x.pass(1);
        Check.refused("14: 21 days behind", Scenes.STATE, () -> x.complain(1, 1));
        RainIndex y = Scenes.coversOfSeason1(100);
        Scenes.passTo(y, 300);
        y.settle(1);
        y.loss(0, 1, 50);
        y.pass(20);
        Check.same("14: counted from the day on which it was settled", y.complain(0, 1), 0);
    }

    private static void promise14WrongInputs() {
        RainIndex x = Scenes.coversOfSeason1(100, 100);
        x.farm(5, 5);
        x.pass(1);
        Check.refused("14: not settled", Scenes.STATE, () -> x.complain(0, 1));
        x.settle(1);
        Check.refused("14: no cover", Scenes.STATE, () -> x.complain(2, 1));
        Check.refused("14: no cover of that season", Scenes.STATE, () -> x.complain(0, 0));
        Check.refused("14: complain(3, 1)", Scenes.INDEX, () -> x.complain(3, 1));
        Check.refused("14: complain(-1, 1)", Scenes.INDEX, () -> x.complain(-1, 1));
        Check.refused("14: complain(0, 20)", Scenes.INDEX, () -> x.complain(0, 20));
        Check.refused("14: complain(0, -1)", Scenes.INDEX, () -> x.complain(0, -1));
        Check.same("14: a complaint", x.complain(0, 1), 0);
        Check.refused("14: complained already", Scenes.STATE, () -> x.complain(0, 1));
    }

    private static void coverIs(String when, RainIndex x, int cover, int... facts) {
        for (int what = 0; what < facts.length; what++) {
            Check.same("21: " + when + ", cover(" + cover + ", " + what + ")", x.cover(cover, what), facts[what]);
        }
    }

    private static void promise21Cover() {
        RainIndex x = Scenes.oneFarm();
        Scenes.slope(x, Scenes.REVISED);
        x.farm(4, 4);
        x.lend(1, 50);
        x.pass(45);
        x.sell(1, 1, 800, 1);
        coverIs("sold", x, 0, 1, 1, 800, 1, 104, 32, Scenes.NONE, Scenes.NONE, 0, 0);
        Scenes.passTo(x, 119);
        Scenes.lateOnset(x, 0, 1, 0);
        Scenes.tell(x, 0, 1, 54, 700);
        x.pass(1);
        x.layer(100, 20);
        x.settle(1);
        coverIs("settled", x, 0, 1, 1, 800, 1, 104, 32, 300, 240, 120, 50);
        x.loss(1, 1, 51);
        x.complain(1, 1);
        coverIs("looked at again", x, 0, 1, 1, 800, 1, 104, 32, 300, 240, 248, 50);
        Scenes.passTo(x, 179);
        x.sell(0, 0, 500, 3);
        coverIs("the second", x, 1, 0, 0, 500, 3, 650, 325, Scenes.NONE, Scenes.NONE, 0, 0);
        Check.refused("21: cover(0, 10)", Scenes.ARGUMENT, () -> x.cover(0, 10));
        Check.refused("21: cover(0, -1)", Scenes.ARGUMENT, () -> x.cover(0, -1));
        Check.refused("21: cover(2, 10)", Scenes.INDEX, () -> x.cover(2, 10));
        Check.refused("21: cover(-1, 0)", Scenes.INDEX, () -> x.cover(-1, 0));
    }

    private static void promise22DueAnew() {
        RainIndex x = new RainIndex();
        x.station(0, 0);
        x.station(9, 9);
        Scenes.slope(x, Scenes.FIRST);
        Scenes.slope(x, Scenes.REVISED);
        x.farm(0, 0);
        x.farm(0, 1);
        x.pass(59);
        x.sell(0, 0, 1000, 1);
        x.sell(1, 1, 500, 1);
        Check.same("22: not settled", x.dueAnew(0), Scenes.NONE);
        Scenes.passTo(x, 120);
        Scenes.lateOnset(x, 1, 1, 400);
        Scenes.tell(x, 1, 1, 54, 600);
        x.layer(10, 10);
        x.settle(1);
        Check.same("22: 600 thousandths", x.dueAnew(0), 600);
        Check.same("22: 400 thousandths of 500", x.dueAnew(1), 200);
        Scenes.tell(x, 1, 1, 54, 900);
        Check.same("22: revised since", x.dueAnew(1), 200);
        Scenes.tell(x, 0, 1, 54, 1000);
        Check.same("22: the gap was filled since", x.rate(0, 1, 0), 0);
        Check.same("22: but due was by what filled it", x.dueAnew(0), 600);
        Check.same("22: as cover(0, 7)", x.cover(0, 7), 600);
        Check.same("22: as cover(1, 7)", x.cover(1, 7), 200);
        Check.refused("22: dueAnew(2)", Scenes.INDEX, () -> x.dueAnew(2));
        Check.refused("22: dueAnew(-1)", Scenes.INDEX, () -> x.dueAnew(-1));
    }

    private static void promise24Books() {
        RainIndex x = settled(500, 2000, 400);
        int[] first = {260 + 52, 32 + 26, 1200, 0, 312 - 1200};
        for (int what = 0; what < 5; what++) {
            Check.same("24: books(" + what + ")", x.books(what), first[what]);
        }
        RainIndex y = Scenes.coversOfSeason1(2000, 400);
        y.pass(1);
        y.layer(500, 1000);
        y.settle(1);
        int[] cut = {312, 58, 1500, 1000, 312 + 1000 - 1500};
        for (int what = 0; what < 5; what++) {
            Check.same("24: cut, books(" + what + ")", y.books(what), cut[what]);
        }
        Check.refused("24: books(5)", Scenes.ARGUMENT, () -> x.books(5));
        Check.refused("24: books(-1)", Scenes.ARGUMENT, () -> x.books(-1));
    }
}
