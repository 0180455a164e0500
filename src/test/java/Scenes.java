/** Beginnings that several tests share. */
final class Scenes {
    static final Class<IllegalArgumentException> ARGUMENT = IllegalArgumentException.class;
    static final Class<IllegalStateException> STATE = IllegalStateException.class;
    static final Class<IndexOutOfBoundsException> INDEX = IndexOutOfBoundsException.class;
    static final int FIRST = RainIndex.FIRST;
    static final int REVISED = RainIndex.REVISED;
    static final int NONE = RainIndex.NONE;

    private Scenes() {
    }

    static RainIndex oneStation() {
        RainIndex x = new RainIndex();
        x.station(5, 5);
        return x;
    }

    /** One station, one product, one farm: the product pays 1000 thousandths less the tenths of the onset's morrow. */
    static RainIndex oneFarm() {
        RainIndex x = oneStation();
        slope(x, FIRST);
        x.farm(5, 5);
        return x;
    }

    static int slope(RainIndex x, int known) {
        x.phase(1, false, 1000, 0, 100);
        return x.product(known);
    }

    static void passTo(RainIndex x, int day) {
        while (x.day() < day) {
            x.pass(Math.min(60, day - x.day()));
        }
    }

    /** Tells days of a season: its number in the season, then its tenths, and so on. */
    static void tell(RainIndex x, int station, int season, int... daysAndTenths) {
        for (int i = 0; i < daysAndTenths.length; i += 2) {
            x.rain(station, 60 * season + daysAndTenths[i], daysAndTenths[i + 1]);
        }
    }

    /** So late in a season no false start is found: the onset is the season's day 53, and its morrow has the tenths. */
    static void lateOnset(RainIndex x, int station, int season, int tenths) {
        tell(x, station, season, 53, 200, 54, tenths);
    }
}
