/** Promises 7 to 10, 13 and 23: farms, debts, loading, layer, losses, and what is told of a farm. */
public final class FarmsTest {
    public static void main(String[] args) {
        promise7Farm();
        promise7StationsAsTheyAreWhenItComes();
        promise7WrongInputs();
        promise8Lend();
        promise9Loading();
        promise10Layer();
        promise13Loss();
        promise13WrongInputs();
        promise23Told();
        promise23TrustByCovers();
        promise23TrustHasBounds();
        promise23WrongInputs();
        Check.report("FarmsTest");
    }

    private static void promise7Farm() {
        RainIndex x = new RainIndex();
        x.station(0, 0);
        x.station(0, 8);
        x.station(6, 4);
        Check.same("7: farm(0, 4)", x.farm(0, 4), 0);
        Check.same("7: as near, the lower number", x.told(0, 0), 0);
        Check.same("7: farm(0, 5)", x.farm(0, 5), 1);
        Check.same("7: nearer to station 1", x.told(1, 0), 1);
        Check.same("7: farm(9, 9)", x.farm(9, 9), 2);
        Check.same("7: 9 and 25 is less than 81 and 1", x.told(2, 0), 2);
        Check.same("7: farm(3, 1)", x.farm(3, 1), 3);
        Check.same("7: 9 and 1 is less than 9 and 9", x.told(3, 0), 0);
        for (int i = 4; i < 16; i++) {
            Check.same("7: farm " + i, x.farm(9, 0), i);
        }
        Check.refused("7: a 17th", Scenes.STATE, () -> x.farm(9, 0));
        Check.refused("7: a 17th out of range", Scenes.ARGUMENT, () -> x.farm(10, 0));
        Check.refused("7: farm 16 is none", Scenes.INDEX, () -> x.told(16, 0));
    }

    private static void promise7StationsAsTheyAreWhenItComes() {
        RainIndex x = new RainIndex();
        x.station(0, 0);
        x.farm(9, 9);
        x.station(9, 9);
        x.farm(9, 9);
        Check.same("7: the station of then", x.told(0, 0), 0);
        Check.same("7: the station of now", x.told(1, 0), 1);
        RainIndex y = new RainIndex();
        y.station(0, 5);
        y.station(3, 3);
        y.farm(0, 0);
        Check.same("7: near is by squares", y.told(0, 0), 1);
    }

    private static void promise7WrongInputs() {
        RainIndex x = new RainIndex();
        Check.refused("7: no station, out of range", Scenes.ARGUMENT, () -> x.farm(0, 10));
        Check.refused("7: no station", Scenes.STATE, () -> x.farm(0, 9));
        x.station(1, 1);
        Check.refused("7: farm(-1, 0)", Scenes.ARGUMENT, () -> x.farm(-1, 0));
        Check.refused("7: farm(10, 0)", Scenes.ARGUMENT, () -> x.farm(10, 0));
        Check.refused("7: farm(0, -1)", Scenes.ARGUMENT, () -> x.farm(0, -1));
        Check.refused("7: farm(0, 10)", Scenes.ARGUMENT, () -> x.farm(0, 10));
        Check.same("7: what was refused is no farm", x.farm(0, 9), 0);
    }

    private static void promise8Lend() {
        RainIndex x = Scenes.oneFarm();
        x.farm(1, 1);
        Check.same("8: lend(0, 1)", x.lend(0, 1), 1);
        for (int i = 1; i <= 10; i++) {
            Check.same("8: lend(0, 9999)", x.lend(0, 9999), 1 + 9999 * i);
        }
        Check.refused("8: above 99999", Scenes.STATE, () -> x.lend(0, 9));
        Check.same("8: up to 99999", x.lend(0, 8), 99999);
        Check.refused("8: one more", Scenes.STATE, () -> x.lend(0, 1));
        Check.refused("8: lend(0, 0)", Scenes.ARGUMENT, () -> x.lend(0, 0));
        Check.refused("8: lend(0, 10000)", Scenes.ARGUMENT, () -> x.lend(0, 10000));
        Check.refused("8: lend(0, MAX)", Scenes.ARGUMENT, () -> x.lend(0, Integer.MAX_VALUE));
        Check.refused("8: lend(2, 0)", Scenes.INDEX, () -> x.lend(2, 0));
        Check.refused("8: lend(-1, 1)", Scenes.INDEX, () -> x.lend(-1, 1));
        Check.same("8: the debt", x.told(0, 2), 99999);
        Check.same("8: the other farm's debt", x.told(1, 2), 0);
    }

    private static void promise9Loading() {
        RainIndex x = Scenes.oneFarm();
        Check.refused("9: loading(-1)", Scenes.ARGUMENT, () -> x.loading(-1));
        Check.refused("9: loading(201)", Scenes.ARGUMENT, () -> x.loading(201));
        Check.same("9: 30 at first", x.loading(0), 30);
        Check.same("9: what it was", x.loading(200), 0);
        Check.same("9: and again", x.loading(15), 200);
        x.farm(1, 1);
        x.farm(2, 2);
        x.pass(30);
        x.sell(0, 0, 999, 1);
        x.loading(0);
        x.sell(1, 0, 999, 1);
        x.loading(200);
        x.sell(2, 0, 999, 1);
        Check.same("9: 99 and 15 hundredths of it", x.cover(0, 4), 113);
        Check.same("9: 99 without any", x.cover(1, 4), 99);
        Check.same("9: 99 and twice as much", x.cover(2, 4), 297);
    }

    private static void promise10Layer() {
        RainIndex x = Scenes.oneFarm();
        Check.refused("10: layer(-1, 0)", Scenes.ARGUMENT, () -> x.layer(-1, 0));
        Check.refused("10: layer(100000, 0)", Scenes.ARGUMENT, () -> x.layer(100000, 0));
        Check.refused("10: layer(0, -1)", Scenes.ARGUMENT, () -> x.layer(0, -1));
        Check.refused("10: layer(0, 100000)", Scenes.ARGUMENT, () -> x.layer(0, 100000));
        Check.same("10: 5000 at first", x.layer(99999, 99999), 5000);
        Check.same("10: what it was", x.layer(300, 200), 99999);
        Scenes.passTo(x, 30);
        x.sell(0, 0, 1000, 1);
        Scenes.passTo(x, 90);
        x.sell(0, 0, 1000, 2);
        Scenes.passTo(x, 180);
        Check.same("10: settled by 300 and 200", x.settle(1), 500);
        Check.same("10: the backer's", x.books(3), 200);
        x.layer(0, 0);
        Check.same("10: settled by nothing", x.settle(2), 0);
        Check.same("10: the season settled ahead stays", x.cover(0, 8), 500);
    }

    private static void promise13Loss() {
        RainIndex x = Scenes.oneFarm();
        x.farm(1, 1);
        Check.same("13: a loss for the first time", x.loss(0, 0, 0), Scenes.NONE);
        Check.same("13: in place of it", x.loss(0, 0, 100), 0);
        Check.same("13: and again", x.loss(0, 0, 40), 100);
        Check.same("13: another farm", x.loss(1, 0, 5), Scenes.NONE);
        x.pass(59);
        Check.refused("13: a season that has not begun", Scenes.STATE, () -> x.loss(0, 1, 5));
        x.pass(1);
        Check.same("13: its first day", x.loss(0, 1, 5), Scenes.NONE);
        Check.same("13: of each season its own", x.loss(0, 0, 6), 40);
    }

    private static void promise13WrongInputs() {
        RainIndex x = Scenes.oneFarm();
        Check.refused("13: loss(1, 0, 0)", Scenes.INDEX, () -> x.loss(1, 0, 0));
        Check.refused("13: loss(-1, 0, 0)", Scenes.INDEX, () -> x.loss(-1, 0, 0));
        Check.refused("13: loss(0, 20, 0)", Scenes.INDEX, () -> x.loss(0, 20, 0));
        Check.refused("13: loss(0, -1, 101)", Scenes.INDEX, () -> x.loss(0, -1, 101));
        Check.refused("13: loss(0, 0, -1)", Scenes.ARGUMENT, () -> x.loss(0, 0, -1));
        Check.refused("13: loss(0, 0, 101)", Scenes.ARGUMENT, () -> x.loss(0, 0, 101));
        Check.refused("13: loss(0, 1, 101)", Scenes.ARGUMENT, () -> x.loss(0, 1, 101));
        Check.same("13: what was refused is not told", x.loss(0, 0, 1), Scenes.NONE);
    }

    private static void promise23Told() {
        RainIndex x = Scenes.oneFarm();
        Check.same("23: trust at first", x.told(0, 1), 50);
        Check.same("23: debt at first", x.told(0, 2), 0);
        x.lend(0, 300);
        x.pass(30);
        x.sell(0, 0, 900, 1);
        Check.same("23: 117 less the state's 32", x.told(0, 4), 85);
        Scenes.passTo(x, 90);
        x.sell(0, 0, 100, 2);
        Check.same("23: and 130 less 65 by the dry season 0", x.told(0, 4), 150);
        Scenes.passTo(x, 180);
        x.settle(1);
        Check.same("23: the debt is set off", x.told(0, 2), 0);
        Check.same("23: it got the rest", x.told(0, 3), 600);
        Check.same("23: trust", x.told(0, 1), 60);
        x.settle(2);
        Check.same("23: and what season 2 paid", x.told(0, 3), 700);
        Check.same("23: its station", x.told(0, 0), 0);
    }

    /** Trust behind a season whose rain leaves so much to be due, with a loss told. */
    private static int trustBy(int tenths, int loss) {
        RainIndex x = Scenes.oneFarm();
        x.pass(30);
        x.sell(0, 0, 1000, 1);
        Scenes.passTo(x, 120);
        Scenes.lateOnset(x, 0, 1, tenths);
        x.loss(0, 1, loss);
        x.settle(1);
        return x.told(0, 1);
    }

    private static void promise23TrustByCovers() {
        Check.same("23: something is paid", trustBy(999, 0), 60);
        Check.same("23: something is paid, with a loss", trustBy(999, 100), 60);
        Check.same("23: nothing is paid, a loss of 30", trustBy(1000, 30), 50);
        Check.same("23: nothing is paid, a loss of 31", trustBy(1000, 31), 30);
        RainIndex x = Scenes.oneFarm();
        x.farm(5, 5);
        x.pass(30);
        x.sell(0, 0, 1000, 1);
        Scenes.passTo(x, 120);
        x.loss(0, 0, 99);
        x.loss(1, 1, 99);
        x.layer(0, 0);
        x.settle(1);
        Check.same("23: no loss of that season was told", x.told(0, 1), 50);
        Check.same("23: no cover was settled", x.told(1, 1), 50);
        x.loss(0, 1, 99);
        Check.same("23: a loss told too late", x.told(0, 1), 50);
        RainIndex y = Scenes.oneFarm();
        y.pass(30);
        y.sell(0, 0, 1000, 1);
        Scenes.passTo(y, 120);
        y.loss(0, 1, 99);
        y.layer(0, 0);
        y.settle(1);
        Check.same("23: due, but nothing is paid", y.told(0, 1), 30);
        Check.same("23: a debt that takes all is paid, too", trustWithDebt(), 60);
    }

    private static int trustWithDebt() {
        RainIndex x = Scenes.oneFarm();
        x.lend(0, 5000);
        x.pass(30);
        x.sell(0, 0, 1000, 1);
        Scenes.passTo(x, 120);
        x.loss(0, 1, 99);
        x.settle(1);
        return x.told(0, 1);
    }

    private static void promise23TrustHasBounds() {
        RainIndex x = Scenes.oneFarm();
        for (int season = 1; season <= 11; season++) {
            Scenes.passTo(x, 60 * season - 1);
            x.sell(0, 0, 10, season);
        }
        Scenes.passTo(x, 720);
        for (int season = 1; season <= 6; season++) {
            x.settle(season);
            Check.same("23: trust by season " + season, x.told(0, 1), Math.min(100, 50 + 10 * season));
        }
        x.layer(0, 0);
        int[] trusts = {80, 60, 40, 20, 0};
        for (int season = 7; season <= 11; season++) {
            x.loss(0, season, 31);
            x.settle(season);
            Check.same("23: trust by season " + season, x.told(0, 1), trusts[season - 7]);
        }
        Check.same("23: below 0 it does not go", trustOfFour(), 0);
    }

    /** From 50 by three seasons to 0, as 10 is the least that 20 are taken from. */
    private static int trustOfFour() {
        RainIndex x = Scenes.oneFarm();
        for (int season = 1; season <= 4; season++) {
            Scenes.passTo(x, 60 * season - 1);
            x.sell(0, 0, 10, season);
        }
        Scenes.passTo(x, 300);
        x.layer(0, 0);
        for (int season = 1; season <= 3; season++) {
            x.loss(0, season, 100);
            x.settle(season);
        }
        return x.told(0, 1);
    }

    private static void promise23WrongInputs() {
        RainIndex x = Scenes.oneFarm();
        Check.refused("23: told(0, 5)", Scenes.ARGUMENT, () -> x.told(0, 5));
        Check.refused("23: told(0, -1)", Scenes.ARGUMENT, () -> x.told(0, -1));
        Check.refused("23: told(1, 5)", Scenes.INDEX, () -> x.told(1, 5));
        Check.refused("23: told(-1, 0)", Scenes.INDEX, () -> x.told(-1, 0));
    }
}
