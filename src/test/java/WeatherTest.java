/** Promises 1 to 4 and 15 to 17: a new object, stations, rain, days, gaps that are filled, onsets. */
public final class WeatherTest {
    public static void main(String[] args) {
        promise1NewObject();
        promise2Station();
        promise3Rain();
        promise3UpToTheLastCall();
        promise4Pass();
        promise15Day();
        promise16OwnDataAndGaps();
        promise16NearIsBySquares();
        promise16WrongInputs();
        promise17ThreeDaysOfRain();
        promise17FalseStarts();
        promise17EndsOfTheSeason();
        promise17KnownAndToCome();
        promise17WrongInputs();
        Check.report("WeatherTest");
    }

    private static void promise1NewObject() {
        RainIndex x = new RainIndex();
        Check.same("1: day()", x.day(), 0);
        Check.refused("1: no station", Scenes.INDEX, () -> x.filled(0, 0, 0));
        Check.refused("1: no product", Scenes.INDEX, () -> x.priced(0, 0));
        Check.refused("1: no farm", Scenes.INDEX, () -> x.told(0, 0));
        Check.refused("1: no cover", Scenes.INDEX, () -> x.cover(0, 0));
        Check.refused("1: no farm without a station", Scenes.STATE, () -> x.farm(0, 0));
        for (int what = 0; what < 5; what++) {
            Check.same("1: books(" + what + ")", x.books(what), 0);
        }
        Check.same("1: NONE", RainIndex.NONE, -1);
        Check.same("1: FIRST", RainIndex.FIRST, 0);
        Check.same("1: REVISED", RainIndex.REVISED, 1);
    }

    private static void promise2Station() {
        RainIndex x = new RainIndex();
        Check.same("2: station(0, 0)", x.station(0, 0), 0);
        Check.same("2: station(9, 9)", x.station(9, 9), 1);
        Check.same("2: the same place again", x.station(9, 9), 2);
        Check.refused("2: station(-1, 0)", Scenes.ARGUMENT, () -> x.station(-1, 0));
        Check.refused("2: station(10, 0)", Scenes.ARGUMENT, () -> x.station(10, 0));
        Check.refused("2: station(0, -1)", Scenes.ARGUMENT, () -> x.station(0, -1));
        Check.refused("2: station(0, 10)", Scenes.ARGUMENT, () -> x.station(0, 10));
        Check.same("2: the fourth", x.station(0, 9), 3);
        Check.same("2: the fifth", x.station(9, 0), 4);
        Check.refused("2: a sixth", Scenes.STATE, () -> x.station(1, 1));
        Check.refused("2: a sixth out of range", Scenes.ARGUMENT, () -> x.station(1, 10));

        RainIndex y = Scenes.oneStation();
        Check.refused("2: rain of days to come", Scenes.ARGUMENT, () -> y.rain(0, 1, 5));
        Check.same("2: rain that was refused was not told", y.station(1, 1), 1);
        y.rain(0, 0, 0);
        Check.refused("2: a station behind rain", Scenes.STATE, () -> y.station(2, 2));
    }

    private static void promise3Rain() {
        RainIndex x = Scenes.oneStation();
        x.pass(3);
        Check.same("3: rain for the first time", x.rain(0, 3, 0), Scenes.NONE);
        Check.same("3: rain again", x.rain(0, 3, 2000), 0);
        Check.same("3: rain for the third time", x.rain(0, 3, 7), 2000);
        Check.same("3: rain of the day 0", x.rain(0, 0, 9), Scenes.NONE);
        Check.refused("3: rain(0, 4, 1)", Scenes.ARGUMENT, () -> x.rain(0, 4, 1));
        Check.refused("3: rain(0, -1, 1)", Scenes.ARGUMENT, () -> x.rain(0, -1, 1));
        Check.refused("3: rain(0, 3, -1)", Scenes.ARGUMENT, () -> x.rain(0, 3, -1));
        Check.refused("3: rain(0, 3, 2001)", Scenes.ARGUMENT, () -> x.rain(0, 3, 2001));
        Check.refused("3: rain(1, 0, 0)", Scenes.INDEX, () -> x.rain(1, 0, 0));
        Check.refused("3: rain(-1, 0, 0)", Scenes.INDEX, () -> x.rain(-1, 0, 0));
        Check.refused("3: rain(1, 4, 2001)", Scenes.INDEX, () -> x.rain(1, 4, 2001));
        Check.same("3: the first is kept", x.filled(0, 3, Scenes.FIRST), 0);
        Check.same("3: the latest is kept", x.filled(0, 3, Scenes.REVISED), 7);
        Check.same("3: what was refused is not", x.rain(0, 3, 1), 7);
    }

    /** With the station, 511 calls: the next is the last of which anything is promised. */
    private static RainIndex toldAsOftenAsPromised() {
        RainIndex x = Scenes.oneStation();
        for (int i = 0; i < 510; i++) {
            Check.same("3: telling " + i, x.rain(0, 0, i), i == 0 ? Scenes.NONE : i - 1);
        }
        return x;
    }

    private static void promise3UpToTheLastCall() {
        Check.same("3: the 511th telling", toldAsOftenAsPromised().rain(0, 0, 7), 509);
        Check.same("3: the last of 510", toldAsOftenAsPromised().filled(0, 0, Scenes.REVISED), 509);
        Check.same("3: the first of 510", toldAsOftenAsPromised().filled(0, 0, Scenes.FIRST), 0);
    }

    private static void promise4Pass() {
        RainIndex x = new RainIndex();
        Check.same("4: pass(1)", x.pass(1), 1);
        Check.same("4: pass(60)", x.pass(60), 61);
        Check.refused("4: pass(0)", Scenes.ARGUMENT, () -> x.pass(0));
        Check.refused("4: pass(-1)", Scenes.ARGUMENT, () -> x.pass(-1));
        Check.refused("4: pass(61)", Scenes.ARGUMENT, () -> x.pass(61));
        Check.refused("4: pass(MAX)", Scenes.ARGUMENT, () -> x.pass(Integer.MAX_VALUE));
        Scenes.passTo(x, 1141);
        Check.refused("4: pass(59) to 1200", Scenes.STATE, () -> x.pass(59));
        Check.same("4: pass(58) to 1199", x.pass(58), 1199);
        Check.refused("4: pass(1) behind the last day", Scenes.STATE, () -> x.pass(1));
        Check.refused("4: pass(61) behind the last day", Scenes.ARGUMENT, () -> x.pass(61));
        Check.same("4: what was refused passed no day", x.day(), 1199);
    }

    private static void promise15Day() {
        RainIndex x = new RainIndex();
        x.pass(17);
        x.pass(4);
        Check.same("15: day()", x.day(), 21);
        Check.same("15: day() changes nothing", x.day(), 21);
    }

    private static void promise16OwnDataAndGaps() {
        RainIndex x = new RainIndex();
        x.station(0, 0);
        x.station(0, 5);
        x.station(3, 4);
        x.station(9, 9);
        x.pass(2);
        Check.same("16: nobody has a datum", x.filled(0, 0, Scenes.FIRST), 0);
        x.rain(1, 0, 11);
        x.rain(2, 0, 22);
        Check.same("16: as near, the lower number", x.filled(0, 0, Scenes.FIRST), 11);
        Check.same("16: the nearer one", x.filled(3, 0, Scenes.FIRST), 22);
        x.rain(1, 0, 55);
        Check.same("16: a gap by first data", x.filled(0, 0, Scenes.FIRST), 11);
        Check.same("16: a gap by revised data", x.filled(0, 0, Scenes.REVISED), 55);
        x.rain(3, 1, 33);
        Check.same("16: the only one that has it, far off", x.filled(0, 1, Scenes.REVISED), 33);
        x.rain(2, 1, 44);
        Check.same("16: a nearer one has it now", x.filled(0, 1, Scenes.FIRST), 44);
        Check.same("16: its own is the nearest", x.filled(3, 1, Scenes.FIRST), 33);
        x.rain(0, 1, 0);
        Check.same("16: no rain is no gap", x.filled(0, 1, Scenes.FIRST), 0);
        Check.same("16: station 1 is nearer to 2", x.filled(1, 1, Scenes.FIRST), 44);
    }

    private static void promise16NearIsBySquares() {
        RainIndex x = new RainIndex();
        x.station(0, 0);
        x.station(0, 5);
        x.station(3, 3);
        x.rain(1, 0, 1);
        x.rain(2, 0, 2);
        Check.same("16: 9 and 9 is less than 25", x.filled(0, 0, Scenes.FIRST), 2);
    }

    private static void promise16WrongInputs() {
        RainIndex x = Scenes.oneStation();
        x.rain(0, 0, 5);
        Check.same("16: a day to come", x.filled(0, 1, Scenes.FIRST), 0);
        Check.same("16: the last day", x.filled(0, 1199, Scenes.REVISED), 0);
        Check.refused("16: filled(0, 1200, 0)", Scenes.ARGUMENT, () -> x.filled(0, 1200, 0));
        Check.refused("16: filled(0, -1, 0)", Scenes.ARGUMENT, () -> x.filled(0, -1, 0));
        Check.refused("16: filled(0, 0, 2)", Scenes.ARGUMENT, () -> x.filled(0, 0, 2));
        Check.refused("16: filled(0, 0, -1)", Scenes.ARGUMENT, () -> x.filled(0, 0, -1));
        Check.refused("16: filled(1, 0, 0)", Scenes.INDEX, () -> x.filled(1, 0, 0));
        Check.refused("16: filled(-1, 1200, 2)", Scenes.INDEX, () -> x.filled(-1, 1200, 2));
    }

    /** The onset of a season on whose last day the rain is told. */
    private static int onsetOf(int season, int... daysAndTenths) {
        RainIndex x = Scenes.oneStation();
        Scenes.passTo(x, 60 * season + 59);
        Scenes.tell(x, 0, season, daysAndTenths);
        return x.onset(0, season, Scenes.FIRST);
    }

    private static void promise17ThreeDaysOfRain() {
        Check.same("17: no rain", onsetOf(0), Scenes.NONE);
        Check.same("17: from the third day on", onsetOf(0, 0, 200, 9, 10, 16, 10), 2);
        Check.same("17: the day itself is told", onsetOf(3, 0, 200, 9, 10, 16, 10), 182);
        Check.same("17: 200 together", onsetOf(0, 0, 66, 1, 67, 2, 67, 9, 10, 16, 10), 2);
        Check.same("17: 199 together", onsetOf(0, 0, 66, 1, 66, 2, 67, 9, 10, 16, 10), Scenes.NONE);
        Check.same("17: 4 days are too many", onsetOf(0, 4, 100, 7, 100, 14, 10, 20, 10), Scenes.NONE);
        Check.same("17: a day and the 2 ahead", onsetOf(0, 4, 100, 6, 100, 13, 10, 20, 10), 6);
        Check.same("17: the first of two", onsetOf(0, 4, 200, 11, 10, 18, 200, 25, 10, 32, 10), 4);
    }

    private static void promise17FalseStarts() {
        Check.same("17: 6 dry days twice", onsetOf(0, 0, 200, 9, 10, 16, 10), 2);
        Check.same("17: 9 is dry", onsetOf(0, 0, 200, 9, 9, 16, 10), Scenes.NONE);
        Check.same("17: 7 dry days at once", onsetOf(0, 0, 200, 10, 10, 17, 10), Scenes.NONE);
        Check.same("17: 7 dry days up to the 15th", onsetOf(0, 0, 200, 9, 10, 10, 10), Scenes.NONE);
        Check.same("17: 6 up to the 15th, 7 to the 16th", onsetOf(0, 0, 200, 9, 10, 11, 10), 2);
        Check.same("17: another start", onsetOf(0, 0, 200, 30, 200, 37, 10, 44, 10), 30);
    }

    private static void promise17EndsOfTheSeason() {
        Check.same("17: 6 days are left", onsetOf(0, 53, 200), 53);
        Check.same("17: the first with 6 days left", onsetOf(0, 51, 200), 53);
        Check.same("17: 7 days are left", onsetOf(0, 50, 200), Scenes.NONE);
        Check.same("17: the last day", onsetOf(0, 59, 200), 59);
        RainIndex x = Scenes.oneStation();
        Scenes.passTo(x, 119);
        Scenes.tell(x, 0, 0, 58, 100, 59, 100);
        Scenes.tell(x, 0, 1, 0, 99, 7, 10, 14, 10);
        Check.same("17: the season ahead is another one", x.onset(0, 1, Scenes.FIRST), Scenes.NONE);
        Check.same("17: that one's own", x.onset(0, 0, Scenes.FIRST), 59);
    }

    private static void promise17KnownAndToCome() {
        RainIndex x = Scenes.oneStation();
        x.pass(9);
        Scenes.tell(x, 0, 0, 0, 200, 9, 10);
        Check.same("17: days to come are dry", x.onset(0, 0, Scenes.FIRST), Scenes.NONE);
        x.pass(7);
        Scenes.tell(x, 0, 0, 16, 10);
        Check.same("17: rain told since", x.onset(0, 0, Scenes.FIRST), 2);
        Check.same("17: no revision yet", x.onset(0, 0, Scenes.REVISED), 2);
        Scenes.tell(x, 0, 0, 0, 50, 1, 0);
        Check.same("17: by first data", x.onset(0, 0, Scenes.FIRST), 2);
        Check.same("17: by revised data", x.onset(0, 0, Scenes.REVISED), Scenes.NONE);
        Check.same("17: a season to come", x.onset(0, 19, Scenes.FIRST), Scenes.NONE);
    }

    private static void promise17WrongInputs() {
        RainIndex x = Scenes.oneStation();
        Check.refused("17: onset(1, 0, 0)", Scenes.INDEX, () -> x.onset(1, 0, 0));
        Check.refused("17: onset(-1, 0, 0)", Scenes.INDEX, () -> x.onset(-1, 0, 0));
        Check.refused("17: onset(0, 20, 0)", Scenes.INDEX, () -> x.onset(0, 20, 0));
        Check.refused("17: onset(0, -1, 5)", Scenes.INDEX, () -> x.onset(0, -1, 5));
        Check.refused("17: onset(0, 0, 2)", Scenes.ARGUMENT, () -> x.onset(0, 0, 2));
        Check.refused("17: onset(0, 0, -1)", Scenes.ARGUMENT, () -> x.onset(0, 0, -1));
    }
}
