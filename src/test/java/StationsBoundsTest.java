/** The boundary cases under "Stations, rain", a test for each sentence that names one. */
public final class StationsBoundsTest {
    private static final int FIRST = Scenes.FIRST;
    private static final int REVISED = Scenes.REVISED;

    public static void main(String[] args) {
        daysAreCountedFrom0();
        daysAreAtMost1199();
        seasonsAre0To19();
        seasonsHave60Days();
        stationsAreNumberedFrom0AtMost5();
        stationsStandOnColumnsAndRows();
        nearIsTheSquareOfBothDifferences();
        nearOfSeveralIsTheLowerNumber();
        rainIsToldUpToToday();
        rainIsInTenths();
        rainToldAgainIsRevised();
        firstIsOfThoseToldByThen();
        knownOfEachDayAndStation();
        filledByTheNearestThatHasOne();
        filledBySeveralAsNear();
        filledKnownSo();
        anOwnDatumIsNoGap();
        filledBy0IfNoneHas();
        filledBy0OnDaysToCome();
        Check.report("StationsBoundsTest");
    }

    private static RainIndex stationsAt(int... columnsAndRows) {
        RainIndex x = new RainIndex();
        for (int i = 0; i < columnsAndRows.length; i += 2) {
            x.station(columnsAndRows[i], columnsAndRows[i + 1]);
        }
        return x;
    }

    /** "Days are counted from 0" */
    private static void daysAreCountedFrom0() {
        RainIndex x = Scenes.oneStation();
        Check.same("the first day", x.day(), 0);
        Check.refused("rain of the day -1", Scenes.ARGUMENT, () -> x.rain(0, -1, 5));
        Check.same("rain of the day 0", x.rain(0, 0, 5), Scenes.NONE);
        Check.refused("rain of the day 1", Scenes.ARGUMENT, () -> x.rain(0, 1, 5));
        Check.same("the next day", x.pass(1), 1);
    }

    /** "at most 1199" */
    private static void daysAreAtMost1199() {
        RainIndex x = Scenes.oneStation();
        Scenes.passTo(x, 1198);
        Check.refused("2 days on from 1198", Scenes.STATE, () -> x.pass(2));
        Check.same("1 day on from 1198", x.pass(1), 1199);
        Check.refused("1 day on from 1199", Scenes.STATE, () -> x.pass(1));
        Check.same("rain of the last day", x.rain(0, 1199, 77), Scenes.NONE);
        Check.refused("rain of the day 1200", Scenes.ARGUMENT, () -> x.rain(0, 1200, 77));
        Check.same("the last day's", x.filled(0, 1199, FIRST), 77);
        Check.same("the one ahead of it", x.filled(0, 1198, FIRST), 0);
        Check.refused("the one behind it", Scenes.ARGUMENT, () -> x.filled(0, 1200, FIRST));
    }

    /** "seasons are 0 to 19" */
    private static void seasonsAre0To19() {
        int[] seasons = {0, 1, 18, 19};
        for (int season : seasons) {
            RainIndex x = Scenes.oneStation();
            Scenes.slope(x, FIRST);
            Scenes.passTo(x, 1199);
            Scenes.lateOnset(x, 0, season, 400);
            for (int other = 0; other < 20; other++) {
                Check.same("the onset of " + other, x.onset(0, other, FIRST),
                        other == season ? 60 * season + 53 : Scenes.NONE);
                Check.same("the rate of " + other, x.rate(0, other, 0), other == season ? 600 : 1000);
            }
            Check.refused("season -1", Scenes.INDEX, () -> x.rate(0, -1, 0));
            Check.refused("season 20", Scenes.INDEX, () -> x.rate(0, 20, 0));
        }
    }

    /** "each of 60 days" */
    private static void seasonsHave60Days() {
        RainIndex x = Scenes.oneStation();
        Scenes.passTo(x, 200);
        x.rain(0, 119, 200);
        Check.same("the day 119 is of season 1", x.onset(0, 1, FIRST), 119);
        Check.same("the day 119 is not of season 2", x.onset(0, 2, FIRST), Scenes.NONE);
        RainIndex y = Scenes.oneStation();
        Scenes.passTo(y, 200);
        Scenes.tell(y, 0, 2, 0, 200, 9, 10, 16, 10);
        Check.same("the day 120 is not of season 1", y.onset(0, 1, FIRST), Scenes.NONE);
        Check.same("the day 120 is of season 2", y.onset(0, 2, FIRST), 122);
        RainIndex z = Scenes.oneStation();
        Scenes.slope(z, FIRST);
        Scenes.passTo(z, 59);
        Check.same("season 0 is not over on day 59", z.priced(0, 0), 100);
        z.pass(1);
        Check.same("season 0 is over on day 60", z.priced(0, 0), 1000);
    }

    /** "Stations are numbered from 0, at most 5 of them" */
    private static void stationsAreNumberedFrom0AtMost5() {
        RainIndex x = new RainIndex();
        for (int i = 0; i < 5; i++) {
            int number = i;
            Check.refused("no station yet of " + i, Scenes.INDEX, () -> x.filled(number, 0, FIRST));
            Check.same("station " + i, x.station(i, i), i);
            Check.same("a station of " + i, x.filled(i, 0, FIRST), 0);
        }
        Check.refused("a sixth", Scenes.STATE, () -> x.station(5, 5));
        Check.refused("no station of 5", Scenes.INDEX, () -> x.filled(5, 0, FIRST));
        x.rain(4, 0, 8);
        Check.same("the last one's rain", x.filled(4, 0, FIRST), 8);
    }

    /** "at a column and a row, 0 to 9 each": the corners, and a place beside each. */
    private static void stationsStandOnColumnsAndRows() {
        RainIndex x = stationsAt(0, 0, 0, 9, 9, 0, 9, 9);
        int[][] farms = {{0, 0, 0}, {1, 1, 0}, {0, 9, 1}, {1, 8, 1}, {9, 0, 2}, {8, 1, 2}, {9, 9, 3}, {8, 8, 3},
            {4, 4, 0}, {4, 5, 1}, {5, 4, 2}, {5, 5, 3}};
        for (int i = 0; i < farms.length; i++) {
            x.farm(farms[i][0], farms[i][1]);
            Check.same("the station of a farm at " + farms[i][0] + ", " + farms[i][1], x.told(i, 0), farms[i][2]);
        }
    }

    private static int nearer(int column, int row, int... columnsAndRows) {
        RainIndex x = stationsAt(columnsAndRows);
        x.farm(column, row);
        return x.told(0, 0);
    }

    /** "that being the square of the difference of both columns and that of both rows, together" */
    private static void nearIsTheSquareOfBothDifferences() {
        Check.same("25 and 26", nearer(0, 0, 0, 5, 1, 5), 0);
        Check.same("26 and 25", nearer(0, 0, 1, 5, 0, 5), 1);
        Check.same("26 and 25 of both differences", nearer(0, 0, 5, 1, 3, 4), 1);
        Check.same("25 of both differences and 26", nearer(0, 0, 4, 3, 1, 5), 0);
        Check.same("25 in one and 18 in both", nearer(0, 0, 0, 5, 3, 3), 1);
        Check.same("25 in one and 32 in both", nearer(0, 0, 0, 5, 4, 4), 0);
        Check.same("162 and 145", nearer(0, 0, 9, 9, 8, 9), 1);
        Check.same("145 and 162", nearer(9, 9, 1, 0, 0, 0), 0);
        Check.same("differences below 0", nearer(9, 9, 4, 8, 5, 6), 1);
        Check.same("0 and 1", nearer(4, 4, 4, 4, 4, 5), 0);
        Check.same("1 and 0", nearer(4, 4, 4, 5, 4, 4), 1);
    }

    /** "of several the lower number" */
    private static void nearOfSeveralIsTheLowerNumber() {
        Check.same("25 and 25", nearer(0, 0, 0, 5, 5, 0), 0);
        Check.same("25 and 25 of both differences", nearer(0, 0, 3, 4, 0, 5), 0);
        Check.same("26, 25 and 25", nearer(0, 0, 1, 5, 0, 5, 3, 4), 1);
        Check.same("25, 26 and 25", nearer(0, 0, 0, 5, 1, 5, 3, 4), 0);
        Check.same("25, 25 and 20", nearer(0, 0, 0, 5, 3, 4, 2, 4), 2);
        Check.same("five at one place", nearer(0, 0, 7, 7, 7, 7, 7, 7, 7, 7, 7, 7), 0);
        Check.same("on all sides", nearer(5, 5, 9, 9, 5, 4, 5, 6, 4, 5, 6, 5), 1);
    }

    /** "Rain is told for a station and a day up to today" */
    private static void rainIsToldUpToToday() {
        RainIndex x = Scenes.oneStation();
        x.pass(10);
        Check.same("yesterday's", x.rain(0, 9, 5), Scenes.NONE);
        Check.same("today's", x.rain(0, 10, 6), Scenes.NONE);
        Check.refused("tomorrow's", Scenes.ARGUMENT, () -> x.rain(0, 11, 7));
        Check.same("tomorrow's is not told", x.filled(0, 11, FIRST), 0);
        x.pass(1);
        Check.same("tomorrow's on that day", x.rain(0, 11, 8), Scenes.NONE);
        Check.same("as it was told then", x.filled(0, 11, FIRST), 8);
    }

    /** "in tenths, 0 to 2000" */
    private static void rainIsInTenths() {
        int[] tenths = {0, 1, 1999, 2000};
        for (int amount : tenths) {
            RainIndex x = Scenes.oneStation();
            Check.same("rain of " + amount, x.rain(0, 0, amount), Scenes.NONE);
            Check.same("filled by " + amount, x.filled(0, 0, REVISED), amount);
            Check.refused("rain of -1", Scenes.ARGUMENT, () -> x.rain(0, 0, -1));
            Check.refused("rain of 2001", Scenes.ARGUMENT, () -> x.rain(0, 0, 2001));
            Check.same("still " + amount, x.rain(0, 0, 3), amount);
        }
    }

    /** "told again for it, it is revised" */
    private static void rainToldAgainIsRevised() {
        int[][] runs = {{5, 5}, {0, 2000}, {2000, 0}, {7, 0, 7}, {0, 0, 1}, {1, 2, 3, 4}};
        for (int[] run : runs) {
            RainIndex x = Scenes.oneStation();
            for (int i = 0; i < run.length; i++) {
                Check.same("told the latest before", x.rain(0, 0, run[i]), i == 0 ? Scenes.NONE : run[i - 1]);
                Check.same("told first", x.filled(0, 0, FIRST), run[0]);
                Check.same("told the latest", x.filled(0, 0, REVISED), run[i]);
            }
        }
    }

    /** "FIRST 0, that which was told first of those told by then": by then counts where a season was settled. */
    private static void firstIsOfThoseToldByThen() {
        RainIndex x = Scenes.oneFarm();
        x.farm(5, 5);
        Scenes.slope(x, REVISED);
        x.pass(59);
        x.sell(0, 0, 1000, 1);
        x.sell(1, 1, 1000, 1);
        Scenes.passTo(x, 120);
        x.rain(0, 113, 200);
        x.rain(0, 114, 100);
        x.rain(0, 114, 300);
        x.settle(1);
        Check.same("first by then", x.dueAnew(0), 900);
        Check.same("the latest by then", x.dueAnew(1), 700);
        x.rain(0, 114, 999);
        Check.same("first, told again since", x.dueAnew(0), 900);
        Check.same("the latest, told again since", x.dueAnew(1), 700);
        RainIndex y = Scenes.oneFarm();
        y.pass(59);
        y.sell(0, 0, 1000, 1);
        Scenes.passTo(y, 120);
        y.rain(0, 113, 200);
        y.settle(1);
        y.rain(0, 114, 100);
        Check.same("nothing was told by then", y.dueAnew(0), 1000);
        Check.same("but now", y.rate(0, 1, 0), 900);
    }

    private static void knownOfEachDayAndStation() {
        RainIndex x = stationsAt(0, 0, 9, 9);
        x.pass(2);
        x.rain(0, 1, 11);
        x.rain(0, 1, 12);
        x.rain(1, 1, 13);
        x.rain(0, 0, 14);
        x.rain(0, 2, 15);
        int[][] due = {{14, 11, 15}, {14, 12, 15}, {14, 13, 15}, {14, 13, 15}};
        for (int day = 0; day < 3; day++) {
            Check.same("station 0, first, day " + day, x.filled(0, day, FIRST), due[0][day]);
            Check.same("station 0, revised, day " + day, x.filled(0, day, REVISED), due[1][day]);
            Check.same("station 1, first, day " + day, x.filled(1, day, FIRST), due[2][day]);
            Check.same("station 1, revised, day " + day, x.filled(1, day, REVISED), due[3][day]);
        }
    }

    /** "it is filled by the nearest other station that has one": from afar to near, as they tell. */
    private static void filledByTheNearestThatHasOne() {
        RainIndex x = stationsAt(0, 0, 2, 4, 0, 5, 1, 5, 9, 9);
        int[] byFarness = {4, 3, 2, 1};
        for (int i = 0; i < byFarness.length; i++) {
            x.rain(byFarness[i], 0, 10 + i);
            Check.same("filled by station " + byFarness[i], x.filled(0, 0, FIRST), 10 + i);
        }
        x.rain(0, 0, 99);
        Check.same("its own", x.filled(0, 0, FIRST), 99);
        RainIndex y = stationsAt(0, 0, 9, 9, 1, 5, 0, 5, 2, 4);
        for (int station = 1; station < 5; station++) {
            y.rain(station, 0, 20 + station);
            Check.same("filled by station " + station, y.filled(0, 0, FIRST), 20 + station);
        }
        RainIndex z = stationsAt(9, 9, 0, 0, 0, 1);
        z.rain(2, 0, 5);
        z.rain(0, 0, 6);
        Check.same("near it, not near the first one", z.filled(1, 0, FIRST), 5);
    }

    /** "of several the lower number", here of those that have a datum */
    private static void filledBySeveralAsNear() {
        RainIndex x = stationsAt(5, 5, 5, 9, 9, 5, 5, 1, 1, 5);
        for (int station = 4; station >= 1; station--) {
            x.rain(station, 0, 30 + station);
            Check.same("the lowest with a datum is " + station, x.filled(0, 0, FIRST), 30 + station);
        }
        RainIndex y = stationsAt(5, 9, 9, 5, 5, 1, 1, 5, 5, 5);
        for (int station = 0; station < 4; station++) {
            y.rain(station, 0, 40 + station);
            Check.same("the lowest with a datum is still 0", y.filled(4, 0, FIRST), 40);
        }
    }

    /** "that has one, known so" */
    private static void filledKnownSo() {
        RainIndex x = stationsAt(0, 0, 0, 1, 0, 3);
        x.rain(1, 0, 5);
        x.rain(2, 0, 6);
        x.rain(2, 0, 7);
        Check.same("the nearer one's first", x.filled(0, 0, FIRST), 5);
        Check.same("the nearer one's latest", x.filled(0, 0, REVISED), 5);
        x.rain(1, 0, 8);
        Check.same("the nearer one's first, revised", x.filled(0, 0, FIRST), 5);
        Check.same("the nearer one's latest, revised", x.filled(0, 0, REVISED), 8);
    }

    /** "Where a station has none": a datum of 0 is one. */
    private static void anOwnDatumIsNoGap() {
        RainIndex x = stationsAt(0, 0, 0, 1, 0, 2);
        x.rain(2, 0, 50);
        Check.same("a gap", x.filled(0, 0, FIRST), 50);
        x.rain(1, 0, 0);
        Check.same("the nearer one has 0", x.filled(0, 0, FIRST), 0);
        Check.same("the nearer one's own 0", x.filled(1, 0, FIRST), 0);
        x.rain(0, 0, 60);
        Check.same("its own", x.filled(0, 0, FIRST), 60);
        x.rain(0, 0, 0);
        Check.same("its own, revised to 0", x.filled(0, 0, REVISED), 0);
    }

    /** "0 if none has" */
    private static void filledBy0IfNoneHas() {
        RainIndex x = stationsAt(0, 0, 0, 1);
        x.pass(3);
        x.rain(1, 1, 5);
        for (int day = 0; day <= 3; day++) {
            Check.same("day " + day + " by first data", x.filled(0, day, FIRST), day == 1 ? 5 : 0);
            Check.same("day " + day + " by revised data", x.filled(0, day, REVISED), day == 1 ? 5 : 0);
        }
        RainIndex y = Scenes.oneStation();
        Check.same("there is no other station", y.filled(0, 0, FIRST), 0);
    }

    /** "as on days to come" */
    private static void filledBy0OnDaysToCome() {
        RainIndex x = stationsAt(0, 0, 0, 1);
        x.pass(7);
        x.rain(1, 7, 5);
        Check.same("today", x.filled(0, 7, REVISED), 5);
        Check.same("tomorrow", x.filled(0, 8, REVISED), 0);
        Check.same("tomorrow of the one that told", x.filled(1, 8, FIRST), 0);
        Check.same("the last day", x.filled(1, 1199, FIRST), 0);
        x.pass(1);
        Check.same("tomorrow has come", x.filled(0, 8, REVISED), 0);
    }
}
