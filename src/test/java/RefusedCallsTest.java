/**
 * "A call that throws an exception changes nothing. If several exceptions apply, the one that is named first in the
 * throws clause is thrown. A method that takes a station, a product, a farm, a season or a cover throws
 * IndexOutOfBoundsException if there is no such one." Refused by ranges alone is in RangesTest; here is what is refused
 * as things stand, each with the call beside it that is taken, and what is refused for several reasons.
 */
public final class RefusedCallsTest {
    private static final Class<IndexOutOfBoundsException> INDEX = Scenes.INDEX;
    private static final Class<IllegalArgumentException> ARGUMENT = Scenes.ARGUMENT;
    private static final Class<IllegalStateException> STATE = Scenes.STATE;

    public static void main(String[] args) {
        stateOfStations();
        stateOfDays();
        stateOfProducts();
        stateOfFarms();
        stateOfDebts();
        stateOfSales();
        stateOfSettling();
        stateOfLosses();
        stateOfComplaints();
        noSecondLookByRefusedComplaints();
        firstNamedOfStationsAndDays();
        firstNamedOfProductsAndFarms();
        firstNamedOfSales();
        firstNamedOfSeasons();
        firstNamedOfQuestions();
        noSuchOneInANewObject();
        refusedAgainAndAgain();
        questionsChangeNothing();
        Check.report("RefusedCallsTest");
    }

    private static void taken(String what, Twins.Making scene, Twins.On call, int due) {
        Check.alike(what, Check.answer(() -> call.make(scene.make())), Integer.toString(due));
    }

    private static RainIndex stations(int count) {
        RainIndex x = new RainIndex();
        for (int i = 0; i < count; i++) {
            x.station(2 * i, 9 - i);
        }
        return x;
    }

    /** A refused telling of rain is none. */
    private static RainIndex rainRefused() {
        RainIndex x = stations(1);
        Check.answer(() -> x.rain(0, 1, 5));
        Check.answer(() -> x.rain(1, 0, 5));
        Check.answer(() -> x.rain(0, 0, 2001));
        return x;
    }

    private static RainIndex rainTold() {
        RainIndex x = stations(1);
        x.rain(0, 0, 0);
        return x;
    }

    private static void stateOfStations() {
        taken("station, there are 3", () -> stations(3), x -> x.station(1, 1), 3);
        taken("station, there are 4", () -> stations(4), x -> x.station(1, 1), 4);
        Twins.refused("station, there are 5", STATE, () -> stations(5), x -> x.station(1, 1));
        taken("station, rain was refused", RefusedCallsTest::rainRefused, x -> x.station(1, 1), 1);
        Twins.refused("station, rain was told", STATE, RefusedCallsTest::rainTold, x -> x.station(1, 1));
        Twins.refused("station, rain was told and more", STATE, Scenes::full, x -> x.station(1, 1));
    }

    private static RainIndex onDay(int day) {
        RainIndex x = Scenes.oneFarm();
        Scenes.passTo(x, day);
        return x;
    }

    private static void stateOfDays() {
        taken("pass to 1198", () -> onDay(1139), x -> x.pass(59), 1198);
        taken("pass to 1199", () -> onDay(1139), x -> x.pass(60), 1199);
        Twins.refused("pass to 1200", STATE, () -> onDay(1140), x -> x.pass(60));
        taken("pass 1 to 1199", () -> onDay(1198), x -> x.pass(1), 1199);
        Twins.refused("pass 2 to 1200", STATE, () -> onDay(1198), x -> x.pass(2));
        Twins.refused("pass 1 to 1200", STATE, () -> onDay(1199), x -> x.pass(1));
        Twins.refused("pass 60 to 1259", STATE, () -> onDay(1199), x -> x.pass(60));
    }

    /** So many products, and so many phases of the next one. */
    private static RainIndex drawnUp(int products, int phases) {
        RainIndex x = Scenes.oneStation();
        for (int i = 0; i < products; i++) {
            x.phase(1, false, 1, 0, 10 + i);
            x.product(i % 2);
        }
        for (int i = 0; i < phases; i++) {
            x.phase(1, false, 1, 0, 20 + i);
        }
        return x;
    }

    private static void stateOfProducts() {
        taken("phase, it has none", () -> drawnUp(0, 0), x -> x.phase(1, false, 1, 0, 1), 1);
        taken("phase, it has 1", () -> drawnUp(0, 1), x -> x.phase(1, false, 1, 0, 1), 2);
        taken("phase, it has 2", () -> drawnUp(0, 2), x -> x.phase(1, false, 1, 0, 1), 3);
        Twins.refused("phase, it has 3", STATE, () -> drawnUp(0, 3), x -> x.phase(1, false, 1, 0, 1));
        Twins.refused("phase, it has 3 behind others", STATE, () -> drawnUp(2, 3), x -> x.phase(1, true, 0, 1, 1));
        taken("phase, though there are 6", () -> drawnUp(6, 0), x -> x.phase(1, false, 1, 0, 1), 1);
        Twins.refused("product without a phase", STATE, () -> drawnUp(0, 0), x -> x.product(Scenes.FIRST));
        Twins.refused("product without a phase behind others", STATE, () -> drawnUp(2, 0),
                x -> x.product(Scenes.REVISED));
        for (int phases = 1; phases <= 3; phases++) {
            int count = phases;
            taken("product with phases, as many as " + count, () -> drawnUp(0, count),
                    x -> x.product(Scenes.FIRST), 0);
        }
        taken("product, there are 4", () -> drawnUp(4, 1), x -> x.product(Scenes.FIRST), 4);
        taken("product, there are 5", () -> drawnUp(5, 1), x -> x.product(Scenes.FIRST), 5);
        Twins.refused("product, there are 6", STATE, () -> drawnUp(6, 1), x -> x.product(Scenes.FIRST));
        Twins.refused("product, there are 6, and no phase", STATE, () -> drawnUp(6, 0), x -> x.product(Scenes.FIRST));
    }

    private static RainIndex farms(int count) {
        RainIndex x = Scenes.oneStation();
        for (int i = 0; i < count; i++) {
            x.farm(i % 10, i / 10);
        }
        return x;
    }

    private static void stateOfFarms() {
        Twins.refused("farm, there is no station", STATE, RefusedCallsTest::drawnUpWithoutAStation,
                x -> x.farm(1, 1));
        taken("farm, there is a station", () -> stations(1), x -> x.farm(1, 1), 0);
        taken("farm, there are 14", () -> farms(14), x -> x.farm(1, 1), 14);
        taken("farm, there are 15", () -> farms(15), x -> x.farm(1, 1), 15);
        Twins.refused("farm, there are 16", STATE, () -> farms(16), x -> x.farm(1, 1));
    }

    private static RainIndex drawnUpWithoutAStation() {
        RainIndex x = new RainIndex();
        x.phase(1, false, 1, 0, 1);
        return x;
    }

    private static RainIndex debtOf(int debt) {
        RainIndex x = Scenes.oneFarm();
        for (int lent = 0; lent < debt; lent += 9999) {
            x.lend(0, Math.min(9999, debt - lent));
        }
        return x;
    }

    private static void stateOfDebts() {
        taken("lend up to 99998", () -> debtOf(90000), x -> x.lend(0, 9998), 99998);
        taken("lend up to 99999", () -> debtOf(90000), x -> x.lend(0, 9999), 99999);
        Twins.refused("lend up to 100000", STATE, () -> debtOf(90001), x -> x.lend(0, 9999));
        taken("lend 1 up to 99999", () -> debtOf(99998), x -> x.lend(0, 1), 99999);
        Twins.refused("lend 2 up to 100000", STATE, () -> debtOf(99998), x -> x.lend(0, 2));
        Twins.refused("lend 1 up to 100000", STATE, () -> debtOf(99999), x -> x.lend(0, 1));
    }

    private static RainIndex distrustedInTheWindow(int seasons) {
        RainIndex x = Scenes.distrusted(seasons);
        Scenes.passTo(x, x.day() + 59);
        return x;
    }

    /** The farm has a cover of season 1, another one has none; the day is 45. */
    private static RainIndex oneCover() {
        RainIndex x = Scenes.oneFarm();
        x.farm(4, 4);
        x.pass(45);
        x.sell(0, 0, 100, 1);
        return x;
    }

    private static void stateOfSales() {
        Twins.refused("sell, there are 60", STATE, Scenes::sixtyCovers, x -> x.sell(12, 0, 10, 4));
        Twins.refused("sell, 31 days ahead", STATE, () -> onDay(29), x -> x.sell(0, 0, 10, 1));
        taken("sell, 30 days ahead", () -> onDay(30), x -> x.sell(0, 0, 10, 1), 0);
        taken("sell, 29 days ahead", () -> onDay(31), x -> x.sell(0, 0, 10, 1), 0);
        taken("sell, 2 days ahead", () -> onDay(58), x -> x.sell(0, 0, 10, 1), 0);
        taken("sell, 1 day ahead", () -> onDay(59), x -> x.sell(0, 0, 10, 1), 0);
        Twins.refused("sell on the first day", STATE, () -> onDay(60), x -> x.sell(0, 0, 10, 1));
        Twins.refused("sell on the second day", STATE, () -> onDay(61), x -> x.sell(0, 0, 10, 1));
        Twins.refused("sell on the last day", STATE, () -> onDay(119), x -> x.sell(0, 0, 10, 1));
        Twins.refused("sell of the season 0", STATE, () -> onDay(0), x -> x.sell(0, 0, 10, 0));
        Twins.refused("sell again", STATE, RefusedCallsTest::oneCover, x -> x.sell(0, 0, 10, 1));
        taken("sell to another farm", RefusedCallsTest::oneCover, x -> x.sell(1, 0, 10, 1), 1);
        taken("sell at trust 30", () -> distrustedInTheWindow(1), x -> x.sell(0, 0, 10, 3), 1);
        Twins.refused("sell at trust 10", STATE, () -> distrustedInTheWindow(2), x -> x.sell(0, 0, 10, 4));
        Twins.refused("sell at trust 0", STATE, () -> distrustedInTheWindow(3), x -> x.sell(0, 0, 10, 5));
    }

    private static RainIndex settledOnce() {
        RainIndex x = Scenes.coversOfSeason1(700, 300);
        x.pass(1);
        x.settle(1);
        return x;
    }

    private static void stateOfSettling() {
        Twins.refused("settle on the first day of all", STATE, () -> onDay(0), x -> x.settle(0));
        Twins.refused("settle, not over by a day", STATE, () -> Scenes.coversOfSeason1(700, 300), x -> x.settle(1));
        taken("settle, over", RefusedCallsTest::overByADay, x -> x.settle(1), 1000);
        Twins.refused("settle again", STATE, RefusedCallsTest::settledOnce, x -> x.settle(1));
        Twins.refused("settle again behind complaints", STATE, Scenes::full, x -> x.settle(1));
        Twins.refused("settle the season of today", STATE, Scenes::full, x -> x.settle(2));
        Twins.refused("settle a season to come", STATE, Scenes::full, x -> x.settle(19));
        taken("settle another one", Scenes::full, x -> x.settle(0), 0);
    }

    private static RainIndex overByADay() {
        RainIndex x = Scenes.coversOfSeason1(700, 300);
        x.pass(1);
        return x;
    }

    private static void stateOfLosses() {
        Twins.refused("loss, not begun by a day", STATE, () -> onDay(59), x -> x.loss(0, 1, 5));
        taken("loss on the first day", () -> onDay(60), x -> x.loss(0, 1, 5), Scenes.NONE);
        taken("loss on the second day", () -> onDay(61), x -> x.loss(0, 1, 5), Scenes.NONE);
        taken("loss on the first day of all", () -> onDay(0), x -> x.loss(0, 0, 5), Scenes.NONE);
        Twins.refused("loss of a season to come", STATE, Scenes::full, x -> x.loss(0, 3, 5));
        Twins.refused("loss of the last season ahead of it", STATE, () -> onDay(1139), x -> x.loss(0, 19, 5));
    }

    private static RainIndex settledFor(int days) {
        RainIndex x = settledOnce();
        x.loss(0, 1, 100);
        Scenes.passTo(x, 120 + days);
        return x;
    }

    /** Two of three have complained, a loss is told since: the next complaint that is taken brings a second look. */
    private static RainIndex lossToldSince(int days) {
        RainIndex x = Scenes.coversOfSeason1(700, 300, 100);
        Scenes.lateOnset(x, 0, 1, 1000);
        x.farm(5, 5);
        x.pass(1);
        x.settle(1);
        x.complain(0, 1);
        x.complain(1, 1);
        x.loss(2, 1, 100);
        Scenes.passTo(x, 120 + days);
        return x;
    }

    private static void noSecondLookByRefusedComplaints() {
        taken("complain by a third", () -> lossToldSince(20), x -> x.complain(2, 1), 560 + 240 + 80);
        Twins.refused("complain by a third, too late", STATE, () -> lossToldSince(21), x -> x.complain(2, 1));
        Twins.refused("complain by a first one again", STATE, () -> lossToldSince(0), x -> x.complain(0, 1));
        Twins.refused("complain by one without a cover", STATE, () -> lossToldSince(0), x -> x.complain(3, 1));
        Twins.refused("complain by none", INDEX, () -> lossToldSince(0), x -> x.complain(4, 1));
    }

    private static void stateOfComplaints() {
        Twins.refused("complain, not over", STATE, () -> Scenes.coversOfSeason1(700, 300), x -> x.complain(0, 1));
        Twins.refused("complain, not settled", STATE, RefusedCallsTest::overByADay, x -> x.complain(0, 1));
        taken("complain, settled", RefusedCallsTest::settledOnce, x -> x.complain(0, 1), 0);
        Twins.refused("complain without a cover", STATE, Scenes::full, x -> x.complain(3, 1));
        Twins.refused("complain again", STATE, Scenes::full, x -> x.complain(0, 1));
        Twins.refused("complain again, the only one", STATE, Scenes::full, x -> x.complain(2, 1));
        taken("complain 19 days behind", () -> settledFor(19), x -> x.complain(0, 1), 0);
        taken("complain 20 days behind", () -> settledFor(20), x -> x.complain(0, 1), 0);
        Twins.refused("complain 21 days behind", STATE, () -> settledFor(21), x -> x.complain(0, 1));
        Twins.refused("complain 22 days behind", STATE, () -> settledFor(22), x -> x.complain(1, 1));
    }

    private static void firstNamedOfStationsAndDays() {
        Twins.refused("station 10, there are 5", ARGUMENT, () -> stations(5), x -> x.station(10, 0));
        Twins.refused("station -1, rain was told", ARGUMENT, RefusedCallsTest::rainTold, x -> x.station(0, -1));
        Twins.refused("rain of no station, no day", INDEX, Scenes::full, x -> x.rain(2, 126, 0));
        Twins.refused("rain of no station, no tenths", INDEX, Scenes::full, x -> x.rain(-1, 0, 2001));
        Twins.refused("rain of no station, no day, no tenths", INDEX, Scenes::full, x -> x.rain(2, -1, -1));
        Twins.refused("pass 61 behind 1199", ARGUMENT, () -> onDay(1199), x -> x.pass(61));
        Twins.refused("pass most behind 1199", ARGUMENT, () -> onDay(1199), x -> x.pass(Integer.MAX_VALUE));
    }

    private static void firstNamedOfProductsAndFarms() {
        Twins.refused("phase of 0 days, it has 3", ARGUMENT, () -> drawnUp(0, 3), x -> x.phase(0, false, 1, 0, 1));
        Twins.refused("phase of 31 days, it has 3", ARGUMENT, () -> drawnUp(0, 3), x -> x.phase(31, true, 0, 1, 1));
        Twins.refused("phase with the trigger at the exit, it has 3", ARGUMENT, () -> drawnUp(0, 3),
                x -> x.phase(1, false, 1, 1, 1));
        Twins.refused("phase of weight 0, it has 3", ARGUMENT, () -> drawnUp(0, 3), x -> x.phase(1, false, 1, 0, 0));
        Twins.refused("product 2 without a phase", ARGUMENT, () -> drawnUp(1, 0), x -> x.product(2));
        Twins.refused("product -1, there are 6", ARGUMENT, () -> drawnUp(6, 1), x -> x.product(-1));
        Twins.refused("farm 10 without a station", ARGUMENT, RefusedCallsTest::drawnUpWithoutAStation,
                x -> x.farm(10, 0));
        Twins.refused("farm -1, there are 16", ARGUMENT, () -> farms(16), x -> x.farm(0, -1));
        Twins.refused("lend 0 to no farm", INDEX, () -> debtOf(99999), x -> x.lend(1, 0));
        Twins.refused("lend 10000 to no farm", INDEX, () -> debtOf(99999), x -> x.lend(-1, 10000));
        Twins.refused("lend 10000 above 99999", ARGUMENT, () -> debtOf(99999), x -> x.lend(0, 10000));
        Twins.refused("lend most above 99999", ARGUMENT, () -> debtOf(99999), x -> x.lend(0, Integer.MAX_VALUE));
    }

    private static void firstNamedOfSales() {
        Twins.refused("sell 0 to no farm", INDEX, RefusedCallsTest::oneCover, x -> x.sell(2, 0, 0, 1));
        Twins.refused("sell 0 of no product", INDEX, RefusedCallsTest::oneCover, x -> x.sell(1, 1, 0, 1));
        Twins.refused("sell 0 for no season", INDEX, RefusedCallsTest::oneCover, x -> x.sell(1, 0, 0, 20));
        Twins.refused("sell to no farm out of the window", INDEX, RefusedCallsTest::oneCover, x -> x.sell(2, 0, 9, 2));
        Twins.refused("sell of no product out of the window", INDEX, RefusedCallsTest::oneCover,
                x -> x.sell(1, -1, 9, 2));
        Twins.refused("sell to no farm 2001 out of the window", INDEX, RefusedCallsTest::oneCover,
                x -> x.sell(-1, 0, 2001, 0));
        Twins.refused("sell of no product again", INDEX, RefusedCallsTest::oneCover, x -> x.sell(0, 1, 9, 1));
        Twins.refused("sell to no farm, there are 60", INDEX, Scenes::sixtyCovers, x -> x.sell(16, 0, 9, 4));
        Twins.refused("sell for no season, there are 60", INDEX, Scenes::sixtyCovers, x -> x.sell(12, 0, 9, -1));
        Twins.refused("sell of no product at trust 10", INDEX, () -> distrustedInTheWindow(2),
                x -> x.sell(0, 1, 9, 4));
        Twins.refused("sell 0, there are 60", ARGUMENT, Scenes::sixtyCovers, x -> x.sell(12, 0, 0, 4));
        Twins.refused("sell 2001 31 days ahead", ARGUMENT, () -> onDay(29), x -> x.sell(0, 0, 2001, 1));
        Twins.refused("sell 0 on the first day", ARGUMENT, () -> onDay(60), x -> x.sell(0, 0, 0, 1));
        Twins.refused("sell 0 again", ARGUMENT, RefusedCallsTest::oneCover, x -> x.sell(0, 0, 0, 1));
        Twins.refused("sell 2001 at trust 10", ARGUMENT, () -> distrustedInTheWindow(2), x -> x.sell(0, 0, 2001, 4));
    }

    private static void firstNamedOfSeasons() {
        Twins.refused("settle no season, as none is over", INDEX, () -> onDay(0), x -> x.settle(-1));
        Twins.refused("settle a season behind the last", INDEX, Scenes::full, x -> x.settle(20));
        Twins.refused("loss of no farm, 101", INDEX, Scenes::full, x -> x.loss(4, 1, 101));
        Twins.refused("loss of no season, -1", INDEX, Scenes::full, x -> x.loss(0, -1, -1));
        Twins.refused("loss of no farm, not begun", INDEX, Scenes::full, x -> x.loss(-1, 3, 5));
        Twins.refused("loss of a season behind the last", INDEX, Scenes::full, x -> x.loss(0, 20, 5));
        Twins.refused("loss of no farm, not begun, 101", INDEX, Scenes::full, x -> x.loss(4, 3, 101));
        Twins.refused("loss 101, not begun", ARGUMENT, Scenes::full, x -> x.loss(0, 3, 101));
        Twins.refused("loss -1, not begun", ARGUMENT, Scenes::full, x -> x.loss(0, 19, -1));
        Twins.refused("complain of no farm, not settled", INDEX, Scenes::full, x -> x.complain(4, 0));
        Twins.refused("complain of no season, without a cover", INDEX, Scenes::full, x -> x.complain(3, 20));
        Twins.refused("complain of no farm, too late", INDEX, () -> settledFor(21), x -> x.complain(2, 1));
        Twins.refused("complain of no season, too late", INDEX, () -> settledFor(21), x -> x.complain(0, -1));
    }

    private static void firstNamedOfQuestions() {
        Twins.refused("filled, no station, no day", INDEX, Scenes::full, x -> x.filled(2, 1200, Scenes.FIRST));
        Twins.refused("filled, no station, not known so", INDEX, Scenes::full, x -> x.filled(-1, 0, 2));
        Twins.refused("filled, no day, not known so", ARGUMENT, Scenes::full, x -> x.filled(0, -1, -1));
        Twins.refused("onset, no station, not known so", INDEX, Scenes::full, x -> x.onset(2, 0, 2));
        Twins.refused("onset, no season, not known so", INDEX, Scenes::full, x -> x.onset(0, 20, -1));
        Twins.refused("index, no phase of no product", INDEX, Scenes::full, x -> x.index(0, 0, 2, 1));
        Twins.refused("cover, none, nothing of it", INDEX, Scenes::full, x -> x.cover(5, 10));
        Twins.refused("told, no farm, nothing of it", INDEX, Scenes::full, x -> x.told(4, 5));
    }

    private static void noSuchOneInANewObject() {
        Twins.refused("rain", INDEX, RainIndex::new, x -> x.rain(0, 0, 0));
        Twins.refused("lend", INDEX, RainIndex::new, x -> x.lend(0, 1));
        Twins.refused("sell", INDEX, RainIndex::new, x -> x.sell(0, 0, 1, 1));
        Twins.refused("sell without a farm", INDEX, () -> drawnUp(1, 0), x -> x.sell(0, 0, 1, 1));
        Twins.refused("sell without a product", INDEX, () -> farms(1), x -> x.sell(0, 0, 1, 1));
        Twins.refused("loss", INDEX, RainIndex::new, x -> x.loss(0, 0, 0));
        Twins.refused("complain", INDEX, RainIndex::new, x -> x.complain(0, 0));
        Twins.refused("filled", INDEX, RainIndex::new, x -> x.filled(0, 0, 0));
        Twins.refused("onset", INDEX, RainIndex::new, x -> x.onset(0, 0, 0));
        Twins.refused("index", INDEX, RainIndex::new, x -> x.index(0, 0, 0, 0));
        Twins.refused("index without a product", INDEX, () -> drawnUp(0, 1), x -> x.index(0, 0, 0, 0));
        Twins.refused("rate without a product", INDEX, () -> drawnUp(0, 1), x -> x.rate(0, 0, 0));
        Twins.refused("priced without a product", INDEX, () -> drawnUp(0, 1), x -> x.priced(0, 0));
        Twins.refused("cover", INDEX, RainIndex::new, x -> x.cover(0, 0));
        Twins.refused("dueAnew", INDEX, RainIndex::new, x -> x.dueAnew(0));
        Twins.refused("told", INDEX, RainIndex::new, x -> x.told(0, 0));
        Twins.refused("farm", STATE, RainIndex::new, x -> x.farm(0, 0));
        Twins.refused("product", STATE, RainIndex::new, x -> x.product(Scenes.FIRST));
        Twins.refused("settle", STATE, RainIndex::new, x -> x.settle(0));
    }

    /** A call that is refused once is refused again as long as nothing else is called. */
    private static void refusedAgainAndAgain() {
        RainIndex x = Scenes.full();
        for (int i = 0; i < 60; i++) {
            Check.refused("station again", STATE, () -> x.station(0, 0));
            Check.refused("settle again", STATE, () -> x.settle(1));
            Check.refused("complain again", STATE, () -> x.complain(2, 1));
            Check.refused("sell again", STATE, () -> x.sell(0, 0, 10, 3));
        }
        Check.same("the day then", x.day(), 125);
        Check.same("the books then", x.books(2), 899);
    }

    private static void questionsChangeNothing() {
        Twins.onlyAsked("day", Scenes::full, RainIndex::day);
        Twins.onlyAsked("filled", Scenes::full, x -> x.filled(0, 114, Scenes.REVISED) + x.filled(1, 3, Scenes.FIRST));
        Twins.onlyAsked("onset", Scenes::full, x -> x.onset(0, 1, Scenes.FIRST) + x.onset(1, 2, Scenes.REVISED));
        Twins.onlyAsked("index", Scenes::full, x -> x.index(0, 1, 1, 0));
        Twins.onlyAsked("rate", Scenes::full, x -> x.rate(1, 1, 0) + x.rate(0, 19, 1));
        Twins.onlyAsked("priced", Scenes::full, x -> x.priced(1, 0) + x.priced(0, 1));
        Twins.onlyAsked("cover", Scenes::full, x -> x.cover(0, 8) + x.cover(4, 7));
        Twins.onlyAsked("dueAnew", Scenes::full, x -> x.dueAnew(0) + x.dueAnew(4));
        Twins.onlyAsked("told", Scenes::full, x -> x.told(0, 1) + x.told(2, 3));
        Twins.onlyAsked("books", Scenes::full, x -> x.books(3) + x.books(4));
    }
}
