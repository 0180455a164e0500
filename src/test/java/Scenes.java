/** Beginnings that several tests share. */
final class Scenes {
    static final Class<IllegalArgumentException> ARGUMENT = IllegalArgumentException.class;
    static final Class<IllegalStateException> STATE = IllegalStateException.class;
    static final Class<IndexOutOfBoundsException> INDEX = IndexOutOfBoundsException.class;
    static final int FIRST = RainIndex.FIRST;
    static final int REVISED = RainIndex.REVISED;
    static final int NONE = RainIndex.NONE;

    private Scenes() {
    }

    static RainIndex oneStation() {
        RainIndex x = new RainIndex();
        x.station(5, 5);
        return x;
    }

    /** One station, one product, one farm: the product pays 1000 thousandths less the tenths of the onset's morrow. */
    static RainIndex oneFarm() {
        RainIndex x = oneStation();
        slope(x, FIRST);
        x.farm(5, 5);
        return x;
    }

    static int slope(RainIndex x, int known) {
        x.phase(1, false, 1000, 0, 100);
        return x.product(known);
    }

    static void passTo(RainIndex x, int day) {
        while (x.day() < day) {
            x.pass(Math.min(60, day - x.day()));
        }
    }

    /** Tells days of a season: its number in the season, then its tenths, and so on. */
    static void tell(RainIndex x, int station, int season, int... daysAndTenths) {
        for (int i = 0; i < daysAndTenths.length; i += 2) {
            x.rain(station, 60 * season + daysAndTenths[i], daysAndTenths[i + 1]);
        }
    }

    /** So late in a season no false start is found: the onset is the season's day 53, and its morrow has the tenths. */
    static void lateOnset(RainIndex x, int station, int season, int tenths) {
        tell(x, station, season, 53, 200, 54, tenths);
    }

    /**
     * Two stations, a product of each kind of data and one that is drawn up, four farms; season 1 is settled and
     * complained about by one farm of each station, season 2 has covers; the day is 125.
     */
    static RainIndex full() {
        RainIndex x = new RainIndex();
        x.station(2, 2);
        x.station(7, 7);
        slope(x, FIRST);
        slope(x, REVISED);
        x.phase(5, true, 1, 4, 60);
        x.farm(2, 3);
        x.farm(3, 2);
        x.farm(8, 8);
        x.farm(1, 1);
        x.lend(0, 90);
        x.loading(40);
        x.layer(600, 300);
        x.pass(40);
        x.sell(0, 0, 900, 1);
        x.sell(1, 1, 700, 1);
        x.sell(2, 1, 400, 1);
        passTo(x, 119);
        x.sell(0, 1, 300, 2);
        x.sell(2, 0, 200, 2);
        lateOnset(x, 0, 1, 300);
        tell(x, 0, 1, 54, 500);
        lateOnset(x, 1, 1, 100);
        x.loss(0, 1, 90);
        passTo(x, 125);
        x.settle(1);
        x.complain(2, 1);
        x.complain(0, 1);
        return x;
    }

    /** So many farms at one station, each with a cover of the slope product for season 1; the day is 119. */
    static RainIndex coversOfSeason1(int... sums) {
        RainIndex x = oneStation();
        slope(x, FIRST);
        x.pass(40);
        for (int i = 0; i < sums.length; i++) {
            x.farm(5, 5);
            x.sell(i, 0, sums[i], 1);
        }
        passTo(x, 119);
        return x;
    }

    /** 16 farms and 60 covers, of the seasons 1 to 4; the day is 239. */
    static RainIndex sixtyCovers() {
        RainIndex x = oneFarm();
        for (int i = 1; i < 16; i++) {
            x.farm(5, 5);
        }
        for (int i = 0; i < 60; i++) {
            passTo(x, 60 * (i / 16 + 1) - 1);
            x.sell(i % 16, 0, 10, i / 16 + 1);
        }
        return x;
    }

    /** One farm, whose seasons from 1 on, so many, are settled unpaid with a loss: each costs 20 of its trust. */
    static RainIndex distrusted(int seasons) {
        RainIndex x = oneFarm();
        x.layer(0, 0);
        for (int season = 1; season <= seasons; season++) {
            passTo(x, 60 * season - 1);
            x.sell(0, 0, 10, season);
        }
        passTo(x, 60 * seasons + 60);
        for (int season = 1; season <= seasons; season++) {
            x.loss(0, season, 31);
            x.settle(season);
        }
        return x;
    }

    /** One station, and a phase of a product that is drawn up. */
    static RainIndex onePhase() {
        RainIndex x = oneStation();
        x.phase(1, false, 1, 0, 1);
        return x;
    }

    /** As full(), on the first day on which covers of season 3 are sold. */
    static RainIndex inTheWindow() {
        RainIndex x = full();
        x.pass(25);
        return x;
    }

    /** One farm, on the last day of all. */
    static RainIndex lastDay() {
        RainIndex x = oneFarm();
        passTo(x, 1199);
        return x;
    }
}
