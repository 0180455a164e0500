/** The boundary cases under "Seasons", a test for each sentence that names one. */
public final class SeasonsBoundsTest {
    private static final int FIRST = Scenes.FIRST;
    private static final int NONE = Scenes.NONE;

    public static void main(String[] args) {
        asTheyAreNow();
        fromItsThirdDayOn();
        rainAheadOfTheSeasonIsNotOfIt();
        thatDayAndThe2Ahead();
        together200OrMore();
        theFirstDay();
        sevenDaysOneBehindTheOther();
        eachWithLessThan10();
        amongThe15BehindIt();
        theOnsetIsNotAmongThem();
        asFarAsTheseAreOfTheSeason();
        noOnset();
        phasesFollowFromTheDayBehindTheOnset();
        eachPhaseHasItsDays();
        phasesAsFarAsTheyAreOfTheSeason();
        drySpellsHaveLessThan10();
        drySpellsAtMost();
        drySpellsEndWithThePhase();
        withoutAnOnset();
        aPhaseOfWhichNoDayIsInTheSeason();
        Check.report("SeasonsBoundsTest");
    }

    /** On day 250: the rain that is told of the season 2, by its days. */
    private static RainIndex season2(int... daysAndTenths) {
        RainIndex x = Scenes.oneStation();
        Scenes.passTo(x, 250);
        Scenes.tell(x, 0, 2, daysAndTenths);
        return x;
    }

    private static void onsetIs(String what, int due, int... daysAndTenths) {
        Check.same(what, season2(daysAndTenths).onset(0, 2, FIRST), due == NONE ? NONE : 120 + due);
    }

    /** "as they are now" */
    private static void asTheyAreNow() {
        RainIndex x = Scenes.oneStation();
        x.pass(52);
        x.rain(0, 52, 200);
        Check.same("7 days to come", x.onset(0, 0, FIRST), 53);
        x.pass(7);
        x.rain(0, 59, 9);
        Check.same("they have come, but with 9", x.onset(0, 0, FIRST), 53);
        x.rain(0, 59, 10);
        Check.same("by first data", x.onset(0, 0, FIRST), 53);
        Check.same("by revised data", x.onset(0, 0, Scenes.REVISED), 52);
        x.rain(0, 52, 199);
        Check.same("revised again", x.onset(0, 0, Scenes.REVISED), NONE);
        Check.same("the first stays", x.onset(0, 0, FIRST), 53);
    }

    /** "from its third one on" */
    private static void fromItsThirdDayOn() {
        onsetIs("all on the first day", 2, 0, 200, 9, 10, 16, 10);
        onsetIs("all on the first day, no false start from there", 2, 0, 200, 7, 10, 14, 10);
        onsetIs("all on the second day", 2, 1, 200, 9, 10, 16, 10);
        onsetIs("all on the second day, no false start from there", 2, 1, 200, 8, 10, 15, 10);
        onsetIs("all on the third day", 2, 2, 200, 9, 10, 16, 10);
        onsetIs("all on the fourth day", 3, 3, 200, 10, 10, 17, 10);
    }

    /** "from its third one on": that is the first day with 2 ahead of it that are of the season. */
    private static void rainAheadOfTheSeasonIsNotOfIt() {
        RainIndex x = season2(0, 100, 7, 10, 14, 10);
        Scenes.tell(x, 0, 1, 58, 100, 59, 100);
        Check.same("300 up to the first day, 100 of the season", x.onset(0, 2, FIRST), NONE);
        RainIndex y = season2(0, 1, 1, 99, 8, 10, 15, 10);
        Scenes.tell(y, 0, 1, 59, 200);
        Check.same("300 up to the second day, 100 of the season", y.onset(0, 2, FIRST), NONE);
        RainIndex z = season2(0, 1, 1, 99, 2, 100, 9, 10, 16, 10);
        Scenes.tell(z, 0, 1, 59, 200);
        Check.same("200 on the third day", z.onset(0, 2, FIRST), 122);
    }

    /** "by which rain of that day and the 2 ahead" */
    private static void thatDayAndThe2Ahead() {
        onsetIs("that day and the one ahead", 21, 20, 100, 21, 100, 28, 10, 35, 10);
        onsetIs("that day and the second ahead", 22, 20, 100, 22, 100, 29, 10, 36, 10);
        onsetIs("that day and the third ahead", NONE, 20, 100, 23, 100, 30, 10, 37, 10);
        onsetIs("all three", 22, 20, 1, 21, 1, 22, 198, 29, 10, 36, 10);
        onsetIs("not the one behind", 22, 20, 1, 21, 1, 22, 198, 23, 500, 29, 10, 36, 10);
        onsetIs("not the one behind it", 23, 20, 1, 21, 1, 22, 197, 23, 2, 30, 10, 37, 10);
    }

    /** "together, is 200 or more" */
    private static void together200OrMore() {
        onsetIs("199 on a day", NONE, 20, 199, 27, 10, 34, 10);
        onsetIs("200 on a day", 20, 20, 200, 27, 10, 34, 10);
        onsetIs("201 on a day", 20, 20, 201, 27, 10, 34, 10);
        onsetIs("2000 on a day", 20, 20, 2000, 27, 10, 34, 10);
        onsetIs("199 on three days", NONE, 20, 66, 21, 66, 22, 67, 29, 10, 36, 10);
        onsetIs("200 on three days", 22, 20, 66, 21, 67, 22, 67, 29, 10, 36, 10);
        onsetIs("201 on three days", 22, 20, 67, 21, 67, 22, 67, 29, 10, 36, 10);
        onsetIs("199, then 200", 23, 20, 66, 21, 66, 22, 67, 23, 67, 30, 10, 37, 10);
    }

    /** "The onset is the first day" */
    private static void theFirstDay() {
        onsetIs("the first of two", 20, 20, 200, 27, 200, 34, 10, 41, 10);
        onsetIs("the first of three days by one rain", 20, 20, 200, 27, 10, 34, 10);
        onsetIs("a false start, then another", 30, 10, 200, 30, 200, 37, 10, 44, 10);
        onsetIs("a false start, the next day is none", 21, 20, 200, 28, 10, 35, 10, 36, 10);
        onsetIs("two false starts, the third day is none", 22, 20, 200, 29, 10, 36, 10, 37, 10);
        onsetIs("three false starts by one rain", NONE, 20, 200, 30, 10, 37, 10);
    }

    /** "unless there are 7 days one behind the other" */
    private static void sevenDaysOneBehindTheOther() {
        onsetIs("6 dry days", 20, 18, 100, 20, 100, 27, 10, 34, 10);
        onsetIs("7 dry days", NONE, 18, 100, 20, 100, 28, 10, 35, 10);
        onsetIs("8 dry days", NONE, 18, 100, 20, 100, 29, 10, 36, 10);
        onsetIs("12 dry days, but one between", 20, 18, 100, 20, 100, 27, 10, 34, 10, 35, 10);
        onsetIs("6 and 6 dry days, and then 2", 20, 18, 100, 20, 100, 27, 10, 34, 10, 37, 10);
        onsetIs("1 and 7 dry days", NONE, 18, 100, 20, 100, 22, 10, 30, 10);
    }

    /** "each with less than 10" */
    private static void eachWithLessThan10() {
        onsetIs("9 is less", NONE, 18, 100, 20, 100, 27, 9, 34, 9);
        onsetIs("10 is not", 20, 18, 100, 20, 100, 27, 10, 34, 10);
        onsetIs("11 is not", 20, 18, 100, 20, 100, 27, 11, 34, 11);
        onsetIs("9 on each of 7 days", NONE, 18, 100, 20, 100, 21, 9, 22, 9, 23, 9, 24, 9, 25, 9, 26, 9, 27, 9, 28, 10,
                35, 10);
        onsetIs("10 on the first of 7 days", 20, 18, 100, 20, 100, 21, 10, 22, 9, 28, 10, 35, 10);
        onsetIs("10 on the last of 7 days", 20, 18, 100, 20, 100, 26, 9, 27, 10, 34, 10);
    }

    /** "among the 15 behind it" */
    private static void amongThe15BehindIt() {
        onsetIs("the 1st to the 7th", NONE, 18, 100, 20, 100, 28, 10, 35, 10);
        onsetIs("the 2nd to the 8th", NONE, 18, 100, 20, 100, 21, 10, 29, 10, 36, 10);
        onsetIs("the 8th to the 14th", NONE, 18, 100, 20, 100, 27, 10, 35, 10, 42, 10);
        onsetIs("the 9th to the 15th", NONE, 18, 100, 20, 100, 22, 10, 28, 10, 36, 10, 43, 10);
        onsetIs("the 10th to the 16th", 20, 18, 100, 20, 100, 23, 10, 29, 10, 37, 10, 44, 10);
        onsetIs("the 11th to the 17th", 20, 18, 100, 20, 100, 24, 10, 30, 10, 38, 10, 45, 10);
        onsetIs("the 16th to the 22nd", 20, 18, 100, 20, 100, 27, 10, 34, 10, 35, 10);
    }

    /** "among the 15 behind it": neither the onset's own day nor those ahead of it. */
    private static void theOnsetIsNotAmongThem() {
        onsetIs("dry on its own day and 6 behind it", 22, 20, 200, 29, 10, 36, 10);
        onsetIs("dry for 2 days and 6 behind it", 22, 20, 191, 21, 9, 29, 10, 36, 10);
        onsetIs("7 dry days ahead of it", 20, 19, 100, 20, 100, 27, 10, 34, 10);
    }

    /** "as far as these are of the season" */
    private static void asFarAsTheseAreOfTheSeason() {
        onsetIs("8 days are left, then 7, then 6", 53, 51, 200);
        onsetIs("7 days are left, then 6", 53, 52, 200);
        onsetIs("7 days are left, but of two days", NONE, 50, 100, 52, 100);
        onsetIs("6 days are left", 53, 53, 200);
        onsetIs("7 days are left, the last with 10", 52, 52, 200, 59, 10);
        onsetIs("7 days are left, the last with 9", 53, 52, 200, 59, 9);
        onsetIs("16 days are left, the last 7 of them dry", 43, 41, 100, 43, 100, 46, 10, 52, 10);
        onsetIs("15 days are left, the last 7 of them dry", NONE, 42, 100, 44, 100, 46, 10, 52, 10);
        onsetIs("15 days are left, the last 6 of them dry", 44, 42, 100, 44, 100, 46, 10, 53, 10);
        onsetIs("14 days are left, the last 7 of them dry", NONE, 43, 100, 45, 100, 52, 10);
        onsetIs("2 days are left", 57, 57, 200);
        onsetIs("1 day is left", 58, 58, 200);
        onsetIs("no day is left", 59, 59, 200);
        RainIndex x = season2(52, 200);
        Scenes.tell(x, 0, 3, 0, 500, 1, 500);
        Check.same("rain behind the season ends no dry spell of it", x.onset(0, 2, FIRST), 173);
        RainIndex y = season2(53, 200);
        Scenes.tell(y, 0, 3, 0, 9, 1, 9);
        Check.same("a dry spell that goes on behind the season", y.onset(0, 2, FIRST), 173);
    }

    /** "if there is none, the season has no onset" */
    private static void noOnset() {
        RainIndex x = season2();
        for (int season = 0; season < 20; season++) {
            Check.same("nothing is told of season " + season, x.onset(0, season, FIRST), NONE);
        }
        onsetIs("199 by each three days", NONE, 0, 199, 3, 199, 6, 199, 9, 199, 12, 199, 15, 199, 18, 199, 21, 199);
        onsetIs("false starts alone", NONE, 5, 200, 15, 200, 25, 200, 35, 200, 45, 200, 48, 10);
        RainIndex y = season2();
        Scenes.tell(y, 0, 1, 53, 200);
        Scenes.tell(y, 0, 3, 0, 200, 9, 10, 10, 10);
        Check.same("rain of the seasons ahead of it and behind it", y.onset(0, 2, FIRST), NONE);
    }

    /** Onset on the season's day 20; the days from 20 on have each twice as much as the one ahead of it. */
    private static RainIndex doubled() {
        return season2(18, 100, 19, 68, 20, 32, 21, 64, 22, 128, 23, 256, 24, 512, 25, 1024, 26, 11, 33, 10, 35, 10);
    }

    private static void sums(RainIndex x, int[] days, int... due) {
        for (int length : days) {
            x.phase(length, false, 1, 0, 1);
        }
        int product = x.product(FIRST);
        for (int phase = 0; phase < days.length; phase++) {
            Check.same("the sum of phase " + phase + " of " + java.util.Arrays.toString(days),
                    x.index(0, 2, product, phase), due[phase]);
        }
    }

    /** "The phases of a product, from 0, follow one another from the day behind the onset on" */
    private static void phasesFollowFromTheDayBehindTheOnset() {
        RainIndex x = doubled();
        Check.same("the onset", x.onset(0, 2, FIRST), 140);
        sums(x, new int[] {1}, 64);
        sums(x, new int[] {2}, 64 + 128);
        sums(x, new int[] {1, 1, 1}, 64, 128, 256);
        sums(x, new int[] {2, 1, 2}, 64 + 128, 256, 512 + 1024);
        sums(x, new int[] {1, 2, 1}, 64, 128 + 256, 512);
    }

    /** "each so many days" */
    private static void eachPhaseHasItsDays() {
        RainIndex x = doubled();
        sums(x, new int[] {4, 1}, 64 + 128 + 256 + 512, 1024);
        sums(x, new int[] {5, 1}, 64 + 128 + 256 + 512 + 1024, 11);
        sums(x, new int[] {6, 6, 1}, 64 + 128 + 256 + 512 + 1024 + 11, 0, 10);
        sums(x, new int[] {6, 7, 1}, 64 + 128 + 256 + 512 + 1024 + 11, 10, 0);
        sums(x, new int[] {29, 1}, 64 + 128 + 256 + 512 + 1024 + 11 + 20, 0);
        sums(x, new int[] {30}, 64 + 128 + 256 + 512 + 1024 + 11 + 20);
    }

    private static RainIndex lateAndOn() {
        RainIndex x = season2(53, 200, 54, 16, 55, 32, 56, 64, 57, 128, 58, 256, 59, 512);
        Scenes.tell(x, 0, 3, 0, 1024, 1, 1025);
        return x;
    }

    /** "as far as these are of the season" */
    private static void phasesAsFarAsTheyAreOfTheSeason() {
        RainIndex x = lateAndOn();
        sums(x, new int[] {5, 1}, 496, 512);
        sums(x, new int[] {5, 2}, 496, 512);
        sums(x, new int[] {5, 30, 1}, 496, 512, 0);
        sums(x, new int[] {6, 1}, 1008, 0);
        sums(x, new int[] {7, 1}, 1008, 0);
        sums(x, new int[] {30, 30, 30}, 1008, 0, 0);
    }

    private static int spell(RainIndex x, int days) {
        x.phase(days, true, 0, 1, 1);
        return x.index(0, 2, x.product(FIRST), 0);
    }

    /** "the dry spell is how many days .. have less than 10" */
    private static void drySpellsHaveLessThan10() {
        Check.same("all with 10", spell(season2(53, 200, 54, 10, 55, 10, 56, 10), 3), 0);
        Check.same("all with 9", spell(season2(53, 200, 54, 9, 55, 9, 56, 9), 3), 3);
        Check.same("10 between", spell(season2(53, 200, 54, 9, 55, 10, 56, 9), 3), 1);
        Check.same("11 between", spell(season2(53, 200, 54, 9, 55, 11, 56, 9), 3), 1);
        Check.same("9 between", spell(season2(53, 200, 54, 9, 55, 9, 56, 9), 3), 3);
    }

    /** "how many days at most, one behind the other" */
    private static void drySpellsAtMost() {
        Check.same("2 and 3", spell(season2(53, 200, 56, 10), 6), 3);
        Check.same("3 and 2", spell(season2(53, 200, 57, 10), 6), 3);
        Check.same("1, 1 and 2", spell(season2(53, 200, 55, 10, 57, 10), 6), 2);
        Check.same("none", spell(season2(53, 200, 54, 10), 1), 0);
        Check.same("one", spell(season2(53, 200), 1), 1);
        Check.same("all 6", spell(season2(53, 200), 6), 6);
        // Behind the 15 days that tell a false start a spell can be longer.
        Check.same("15 of 30", spell(season2(1, 100, 2, 100, 9, 10, 16, 10, 17, 10), 30), 15);
        RainIndex x = season2(1, 100, 2, 100, 9, 10, 16, 10, 17, 10);
        x.phase(15, true, 0, 1, 1);
        x.phase(30, true, 0, 1, 1);
        x.product(FIRST);
        Check.same("no more than 6 among the 15", x.index(0, 2, 0, 0), 6);
        Check.same("all 30 behind these", x.index(0, 2, 0, 1), 30);
    }

    private static void drySpellsEndWithThePhase() {
        RainIndex x = season2(53, 200, 54, 10);
        x.phase(2, true, 0, 1, 1);
        x.phase(3, true, 0, 1, 1);
        x.phase(3, true, 0, 1, 1);
        x.product(FIRST);
        Check.same("1 of 5", x.index(0, 2, 0, 0), 1);
        Check.same("3 of 5", x.index(0, 2, 0, 1), 3);
        Check.same("the last of 5", x.index(0, 2, 0, 2), 1);
    }

    /** "Without an onset a sum is 0, and a dry spell 60" */
    private static void withoutAnOnset() {
        RainIndex x = season2(0, 66, 1, 66, 2, 67, 9, 100, 16, 100);
        for (int i = 0; i < 3; i++) {
            x.phase(1 + 14 * i, i == 1, i == 1 ? 59 : 1, i == 1 ? 60 : 0, 1);
        }
        x.product(FIRST);
        Check.same("a sum without an onset", x.index(0, 2, 0, 0), 0);
        Check.same("a spell without an onset", x.index(0, 2, 0, 1), 60);
        Check.same("another sum without an onset", x.index(0, 2, 0, 2), 0);
        x.rain(0, 121, 67);
        Check.same("first data have none still", x.index(0, 2, 0, 1), 60);
        x.rain(0, 123, 1);
        Check.same("one more tenth, but on the fourth day", x.onset(0, 2, FIRST), NONE);
        RainIndex y = season2(0, 66, 1, 67, 2, 67, 9, 100, 16, 100);
        y.phase(1, true, 59, 60, 1);
        y.phase(15, false, 1, 0, 1);
        y.product(FIRST);
        Check.same("a spell with an onset", y.index(0, 2, 0, 0), 1);
        Check.same("a sum with an onset", y.index(0, 2, 0, 1), 200);
    }

    private static void phaseBehind(String what, int onset, int daysAhead, int spell, int sum) {
        RainIndex x = season2(onset, 200);
        Scenes.tell(x, 0, 3, 0, 500);
        Check.same("the onset", x.onset(0, 2, FIRST), 120 + onset);
        x.phase(daysAhead, false, 1, 0, 1);
        x.phase(3, true, 0, 1, 1);
        x.product(FIRST);
        x.phase(daysAhead, false, 1, 0, 1);
        x.phase(3, false, 1, 0, 1);
        x.product(FIRST);
        Check.same("the spell, " + what, x.index(0, 2, 0, 1), spell);
        Check.same("the sum, " + what, x.index(0, 2, 1, 1), sum);
    }

    /** "likewise of a phase of which no day is in the season" */
    private static void aPhaseOfWhichNoDayIsInTheSeason() {
        phaseBehind("3 days are", 56, 1, 2, 0);
        phaseBehind("2 days are", 55, 2, 2, 0);
        phaseBehind("1 day is", 57, 1, 1, 0);
        phaseBehind("no day is", 58, 1, 60, 0);
        phaseBehind("no day is by far", 59, 30, 60, 0);
        phaseBehind("its first day is the last one", 54, 4, 1, 0);
        phaseBehind("its first day is behind the last one", 54, 5, 60, 0);
        RainIndex x = season2(58, 200, 59, 33);
        x.phase(1, false, 1, 0, 1);
        x.phase(1, false, 1, 0, 1);
        x.phase(1, true, 0, 1, 1);
        x.product(FIRST);
        Check.same("the last day is of the first phase", x.index(0, 2, 0, 0), 33);
        Check.same("no day is of the second", x.index(0, 2, 0, 1), 0);
        Check.same("no day is of the third", x.index(0, 2, 0, 2), 60);
        RainIndex y = season2(59, 200);
        y.phase(1, true, 0, 1, 1);
        y.phase(30, false, 1, 0, 1);
        y.product(FIRST);
        Check.same("no day is behind the onset, a spell", y.index(0, 2, 0, 0), 60);
        Check.same("no day is behind the onset, a sum", y.index(0, 2, 0, 1), 0);
    }
}
