/**
 * Each argument of each call, by its range in the document: the least and the most, and the ones beside them within the
 * range, are taken; the ones beside them beyond it, and the least and the most that an int can be, are refused, and
 * nothing is changed by that.
 */
public final class RangesTest {
    interface OnValue {
        int make(RainIndex x, int value);
    }

    interface Due {
        int of(int value);
    }

    public static void main(String[] args) {
        promise2Station();
        promise3Rain();
        promise4Pass();
        promise5Phase();
        promise5TriggersAndExits();
        promise6Product();
        promise7Farm();
        promise8Lend();
        promise9Loading();
        promise10Layer();
        promise11Sell();
        promise12Settle();
        promise13Loss();
        promise14Complain();
        promise16Filled();
        promise17Onset();
        promise18Index();
        promise19Rate();
        promise20Priced();
        promise21Cover();
        promise22DueAnew();
        promise23Told();
        promise24Books();
        Check.report("RangesTest");
    }

    /** The call's own answer is due within the range. */
    private static void range(String what, Class<? extends RuntimeException> kind, Twins.Making scene, int least,
            int most, OnValue call, Due due) {
        range(what, kind, scene, least, most, call, call, due);
    }

    /** Within the range something is due of other calls, too; beyond it the call alone is made, as it is refused. */
    private static void range(String what, Class<? extends RuntimeException> kind, Twins.Making scene, int least,
            int most, OnValue call, OnValue callAndMore, Due due) {
        int[] within = {least, Math.min(least + 1, most), Math.max(most - 1, least), most};
        for (int value : within) {
            Check.alike(what + " of " + value, Check.answer(() -> callAndMore.make(scene.make(), value)),
                    Integer.toString(due.of(value)));
        }
        int[] beyond = {least - 1, most + 1, Integer.MIN_VALUE, Integer.MAX_VALUE};
        for (int value : beyond) {
            Twins.refused(what + " of " + value, kind, scene, x -> call.make(x, value));
        }
    }

    private static void promise2Station() {
        range("2: a column", Scenes.ARGUMENT, RainIndex::new, 0, 9, (x, v) -> x.station(v, 0), v -> 0);
        range("2: a row", Scenes.ARGUMENT, RainIndex::new, 0, 9, (x, v) -> x.station(0, v), v -> 0);
    }

    private static void promise3Rain() {
        range("3: a station", Scenes.INDEX, Scenes::full, 0, 1, (x, v) -> x.rain(v, 120, 5), v -> Scenes.NONE);
        range("3: a day up to today", Scenes.ARGUMENT, Scenes::full, 0, 125, (x, v) -> x.rain(0, v, 7), (x, v) -> {
            x.rain(0, v, 7);
            return x.filled(0, v, Scenes.REVISED);
        }, v -> 7);
        range("3: tenths", Scenes.ARGUMENT, Scenes::full, 0, 2000, (x, v) -> x.rain(1, 3, v), (x, v) -> {
            x.rain(1, 3, v);
            return x.filled(1, 3, Scenes.FIRST);
        }, v -> v);
    }

    private static void promise4Pass() {
        range("4: days", Scenes.ARGUMENT, RainIndex::new, 1, 60, RainIndex::pass, v -> v);
        range("4: days on", Scenes.ARGUMENT, Scenes::full, 1, 60, RainIndex::pass, v -> 125 + v);
    }

    private static void promise5Phase() {
        range("5: days by a sum", Scenes.ARGUMENT, Scenes::full, 1, 30, (x, v) -> x.phase(v, false, 1, 0, 1), v -> 2);
        range("5: days by a dry spell", Scenes.ARGUMENT, Scenes::full, 1, 30, (x, v) -> x.phase(v, true, 0, 1, 1),
                v -> 2);
        range("5: the weight", Scenes.ARGUMENT, Scenes::full, 1, 100, (x, v) -> x.phase(1, false, 1, 0, v), v -> 2);
        // Without an onset a phase pays all: the rate is ten times the weight.
        range("5: the weight of a rate", Scenes.ARGUMENT, Scenes::oneStation, 1, 100,
                (x, v) -> x.phase(1, true, 0, 1, v), (x, v) -> {
                    x.phase(1, true, 0, 1, v);
                    return x.rate(0, 0, x.product(Scenes.FIRST));
                }, v -> 10 * v);
    }

    private static void promise5TriggersAndExits() {
        int[] others = {0, 1, 500, 9998, 9999};
        for (int other : others) {
            if (other < 9999) {
                range("5: a sum's trigger, the exit being " + other, Scenes.ARGUMENT, Scenes::full, other + 1, 9999,
                        (x, v) -> x.phase(1, false, v, other, 1), v -> 2);
                range("5: a dry spell's exit, the trigger being " + other, Scenes.ARGUMENT, Scenes::full, other + 1,
                        9999, (x, v) -> x.phase(1, true, other, v, 1), v -> 2);
            }
            if (other > 0) {
                range("5: a sum's exit, the trigger being " + other, Scenes.ARGUMENT, Scenes::full, 0, other - 1,
                        (x, v) -> x.phase(1, false, other, v, 1), v -> 2);
                range("5: a dry spell's trigger, the exit being " + other, Scenes.ARGUMENT, Scenes::full, 0,
                        other - 1, (x, v) -> x.phase(1, true, v, other, 1), v -> 2);
            }
        }
    }

    private static void promise6Product() {
        range("6: known", Scenes.ARGUMENT, Scenes::full, 0, 1, RainIndex::product, v -> 2);
        range("6: known by the first one", Scenes.ARGUMENT, Scenes::onePhase, 0, 1, RainIndex::product, v -> 0);
    }

    private static void promise7Farm() {
        range("7: a column", Scenes.ARGUMENT, Scenes::full, 0, 9, (x, v) -> x.farm(v, 9), v -> 4);
        range("7: a row", Scenes.ARGUMENT, Scenes::full, 0, 9, (x, v) -> x.farm(9, v), v -> 4);
        // Stations are at 2, 2 and 7, 7.
        range("7: where a column is", Scenes.ARGUMENT, Scenes::full, 0, 9, (x, v) -> x.farm(v, 5),
                (x, v) -> x.told(x.farm(v, 5), 0), v -> v > 4 ? 1 : 0);
        range("7: where a row is", Scenes.ARGUMENT, Scenes::full, 0, 9, (x, v) -> x.farm(5, v),
                (x, v) -> x.told(x.farm(5, v), 0), v -> v > 4 ? 1 : 0);
    }

    private static void promise8Lend() {
        range("8: a farm", Scenes.INDEX, Scenes::full, 0, 3, (x, v) -> x.lend(v, 5),
                (x, v) -> x.lend(v, 5) - x.told(v, 2), v -> 0);
        range("8: an amount", Scenes.ARGUMENT, Scenes::full, 1, 9999, (x, v) -> x.lend(3, v), v -> v);
    }

    private static void promise9Loading() {
        range("9: hundredths", Scenes.ARGUMENT, Scenes::full, 0, 200, RainIndex::loading, (x, v) -> {
            x.loading(v);
            return x.loading(0);
        }, v -> v);
        range("9: hundredths of a price", Scenes.ARGUMENT, Scenes::inTheWindow, 0, 200, RainIndex::loading, (x, v) -> {
            x.loading(v);
            return x.cover(x.sell(3, 0, 1000, 3), 4);
        }, v -> 850 + 850 * v / 100);
    }

    private static void promise10Layer() {
        range("10: the retention", Scenes.ARGUMENT, Scenes::full, 0, 99999, (x, v) -> x.layer(v, 1), (x, v) -> {
            x.layer(v, 1);
            return x.layer(0, 0);
        }, v -> v);
        range("10: the retention of a settled season", Scenes.ARGUMENT, RangesTest::fourThousandDue, 0, 99999,
                (x, v) -> x.layer(v, 2), (x, v) -> {
                    x.layer(v, 2);
                    return x.settle(1);
                }, v -> v < 4000 ? (v + 2) / 2 * 2 : 4000);
        range("10: the layer of a settled season", Scenes.ARGUMENT, RangesTest::fourThousandDue, 0, 99999,
                (x, v) -> x.layer(2, v), (x, v) -> {
                    x.layer(2, v);
                    return x.settle(1);
                }, v -> v < 4000 ? (v + 2) / 2 * 2 : 4000);
    }

    private static RainIndex fourThousandDue() {
        RainIndex x = Scenes.coversOfSeason1(2000, 2000);
        x.pass(1);
        return x;
    }

    private static void promise11Sell() {
        range("11: a farm", Scenes.INDEX, Scenes::inTheWindow, 0, 3, (x, v) -> x.sell(v, 0, 100, 3), v -> 5);
        range("11: a product", Scenes.INDEX, Scenes::inTheWindow, 0, 1, (x, v) -> x.sell(3, v, 100, 3), v -> 5);
        range("11: a sum", Scenes.ARGUMENT, Scenes::inTheWindow, 1, 2000, (x, v) -> x.sell(3, 0, v, 3),
                (x, v) -> x.cover(x.sell(3, 0, v, 3), 2), v -> v);
        int[] noSeasons = {-1, 20, Integer.MIN_VALUE, Integer.MAX_VALUE};
        for (int season : noSeasons) {
            Twins.refused("11: season " + season, Scenes.INDEX, Scenes::inTheWindow, x -> x.sell(3, 0, 100, season));
        }
        int[] seasonsOutOfTheWindow = {0, 1, 2, 4, 18, 19};
        for (int season : seasonsOutOfTheWindow) {
            Twins.refused("11: season " + season, Scenes.STATE, Scenes::inTheWindow, x -> x.sell(3, 0, 100, season));
        }
    }

    private static void promise12Settle() {
        int[] noSeasons = {-1, 20, Integer.MIN_VALUE, Integer.MAX_VALUE};
        for (int season : noSeasons) {
            Twins.refused("12: season " + season, Scenes.INDEX, Scenes::lastDay, x -> x.settle(season));
        }
        int[] over = {0, 1, 17, 18};
        for (int season : over) {
            Check.alike("12: season " + season, Check.answer(() -> Scenes.lastDay().settle(season)), "0");
        }
        Twins.refused("12: season 19", Scenes.STATE, Scenes::lastDay, x -> x.settle(19));
    }

    private static void promise13Loss() {
        range("13: a farm", Scenes.INDEX, Scenes::full, 0, 3, (x, v) -> x.loss(v, 2, 5), v -> Scenes.NONE);
        range("13: a season", Scenes.INDEX, Scenes::lastDay, 0, 19, (x, v) -> x.loss(0, v, 5), v -> Scenes.NONE);
        range("13: hundredths", Scenes.ARGUMENT, Scenes::full, 0, 100, (x, v) -> x.loss(3, 1, v), (x, v) -> {
            x.loss(3, 1, v);
            return x.loss(3, 1, 0);
        }, v -> v);
    }

    private static void promise14Complain() {
        int[] noFarms = {-1, 4, Integer.MIN_VALUE, Integer.MAX_VALUE};
        for (int farm : noFarms) {
            Twins.refused("14: farm " + farm, Scenes.INDEX, Scenes::full, x -> x.complain(farm, 1));
        }
        int[] noSeasons = {-1, 20, Integer.MIN_VALUE, Integer.MAX_VALUE};
        for (int season : noSeasons) {
            Twins.refused("14: season " + season, Scenes.INDEX, Scenes::full, x -> x.complain(1, season));
        }
        int[] seasonsThatAreNotSettled = {0, 2, 3, 18, 19};
        for (int season : seasonsThatAreNotSettled) {
            Twins.refused("14: season " + season, Scenes.STATE, Scenes::full, x -> x.complain(0, season));
        }
    }

    private static void promise16Filled() {
        range("16: a station", Scenes.INDEX, Scenes::full, 0, 1, (x, v) -> x.filled(v, 114, Scenes.FIRST),
                v -> v == 0 ? 300 : 100);
        range("16: a day", Scenes.ARGUMENT, Scenes::lastDay, 0, 1199,
                (x, v) -> x.filled(0, v, Scenes.FIRST), (x, v) -> {
                    x.rain(0, v, 9);
                    return x.filled(0, v, Scenes.FIRST);
                }, v -> 9);
        range("16: known", Scenes.ARGUMENT, Scenes::full, 0, 1, (x, v) -> x.filled(0, 114, v),
                v -> v == Scenes.FIRST ? 300 : 500);
    }

    private static void promise17Onset() {
        range("17: a station", Scenes.INDEX, Scenes::full, 0, 1, (x, v) -> x.onset(v, 1, Scenes.FIRST), v -> 113);
        range("17: a season", Scenes.INDEX, Scenes::full, 0, 19, (x, v) -> x.onset(0, v, Scenes.FIRST),
                v -> v == 1 ? 113 : Scenes.NONE);
        range("17: known", Scenes.ARGUMENT, Scenes::full, 0, 1, (x, v) -> x.onset(0, 1, v), v -> 113);
    }

    private static void promise18Index() {
        range("18: a station", Scenes.INDEX, Scenes::full, 0, 1, (x, v) -> x.index(v, 1, 0, 0),
                v -> v == 0 ? 300 : 100);
        range("18: a season", Scenes.INDEX, Scenes::full, 0, 19, (x, v) -> x.index(0, v, 0, 0), v -> v == 1 ? 300 : 0);
        range("18: a product", Scenes.INDEX, Scenes::full, 0, 1, (x, v) -> x.index(0, 1, v, 0),
                v -> v == 0 ? 300 : 500);
        range("18: the one phase", Scenes.INDEX, () -> withPhases(1), 0, 0, (x, v) -> x.index(0, 0, 0, v), v -> 60);
        range("18: one of two phases", Scenes.INDEX, () -> withPhases(2), 0, 1, (x, v) -> x.index(0, 0, 0, v),
                v -> v == 0 ? 60 : 0);
        range("18: one of three phases", Scenes.INDEX, () -> withPhases(3), 0, 2, (x, v) -> x.index(0, 0, 0, v),
                v -> v % 2 == 0 ? 60 : 0);
    }

    /** A product of so many phases, every other one by its dry spell; the next one has two. */
    private static RainIndex withPhases(int count) {
        RainIndex x = Scenes.oneStation();
        for (int i = 0; i < count; i++) {
            x.phase(1, i % 2 == 0, i % 2, 1 - i % 2, 1);
        }
        x.product(Scenes.FIRST);
        x.phase(1, true, 0, 1, 1);
        x.phase(1, true, 0, 1, 1);
        return x;
    }

    private static void promise19Rate() {
        range("19: a station", Scenes.INDEX, Scenes::full, 0, 1, (x, v) -> x.rate(v, 1, 0), v -> v == 0 ? 700 : 900);
        range("19: a season", Scenes.INDEX, Scenes::full, 0, 19, (x, v) -> x.rate(0, v, 0), v -> v == 1 ? 700 : 1000);
        range("19: a product", Scenes.INDEX, Scenes::full, 0, 1, (x, v) -> x.rate(0, 1, v), v -> v == 0 ? 700 : 500);
    }

    private static void promise20Priced() {
        range("20: a station", Scenes.INDEX, Scenes::full, 0, 1, (x, v) -> x.priced(v, 0), v -> v == 0 ? 850 : 950);
        range("20: a product", Scenes.INDEX, Scenes::full, 0, 1, (x, v) -> x.priced(0, v), v -> v == 0 ? 850 : 750);
    }

    private static void promise21Cover() {
        int[] farms = {0, 1, 2, 0, 2};
        range("21: a cover", Scenes.INDEX, Scenes::full, 0, 4, (x, v) -> x.cover(v, 0), v -> farms[v]);
        // 630, 350 and 360 are due, 900 are paid: 423 of the 630, of which the debt of 90 is set off.
        int[] facts = {0, 0, 900, 1, 126, 35, 700, 630, 423, 90};
        range("21: what", Scenes.ARGUMENT, Scenes::full, 0, 9, (x, v) -> x.cover(0, v), v -> facts[v]);
    }

    private static void promise22DueAnew() {
        int[] dues = {630, 350, 360, Scenes.NONE, Scenes.NONE};
        range("22: a cover", Scenes.INDEX, Scenes::full, 0, 4, RainIndex::dueAnew, v -> dues[v]);
    }

    private static void promise23Told() {
        range("23: a farm", Scenes.INDEX, Scenes::full, 0, 3, (x, v) -> x.told(v, 0), v -> v == 2 ? 1 : 0);
        // It paid 126 less 35, and 420 less 210 behind the dry season 0.
        int[] facts = {0, 60, 0, 333, 91 + 210};
        range("23: what", Scenes.ARGUMENT, Scenes::full, 0, 4, (x, v) -> x.told(0, v), v -> facts[v]);
    }

    private static void promise24Books() {
        // Prices: 126, 98, 56, 420, 280; the state's: half of 70, 70, 56, 420, 280; 423, 235 and 241 were paid.
        int[] facts = {980, 448, 899, 299, 980 + 299 - 899};
        range("24: what", Scenes.ARGUMENT, Scenes::full, 0, 4, RainIndex::books, v -> facts[v]);
    }
}
