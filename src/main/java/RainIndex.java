import java.util.ArrayList;
import java.util.Arrays;

/** Insures farmers by the rain of stations near them; the promises stand in the document of the project. */
public final class RainIndex {
    public static final int NONE = -1;
    public static final int FIRST = 0, REVISED = 1;

    private static final int DAYS = 1200;
    private static final int SEASONS = 20;
    private static final int SEASON_DAYS = 60;
    private static final int MOST_DAYS_AT_ONCE = 60;
    private static final int GRID = 10;

    private static final int MOST_STATIONS = 5;
    private static final int MOST_PRODUCTS = 6;
    private static final int MOST_PHASES = 3;
    private static final int MOST_FARMS = 16;
    private static final int MOST_COVERS = 60;
    private static final int MOST_TELLINGS = 512;

    private static final int MOST_RAIN = 2000;
    private static final int DRY_BELOW = 10;
    private static final int ONSET_DAYS = 3;
    private static final int ONSET_RAIN = 200;
    private static final int FALSE_START_WITHIN = 15;
    private static final int FALSE_START_SPELL = 7;

    private static final int MOST_PHASE_DAYS = 30;
    private static final int MOST_CLAUSE = 9999;
    private static final int FULL_WEIGHT = 100;
    private static final int FULL_RATE = 1000;
    private static final int RATE_WITHOUT_SEASONS = 100;

    private static final int MOST_LENT = 9999;
    private static final int MOST_DEBT = 99999;
    private static final int MOST_LOADING = 200;
    private static final int MOST_CAPITAL = 99999;
    private static final int MOST_SUM = 2000;
    private static final int SUBSIDISED_SUM = 500;
    private static final int SALE_DAYS = 30;

    private static final int TRUST_AT_FIRST = 50;
    private static final int TRUST_TO_BUY = 20;
    private static final int MOST_TRUST = 100;
    private static final int TRUST_WON = 10;
    private static final int TRUST_LOST = 20;
    private static final int MOST_LOSS = 100;
    private static final int LOSS_THAT_COSTS_TRUST = 30;
    private static final int COMPLAINT_DAYS = 20;
    private static final int LOSS_BORNE = 20;

    private final Weather weather = new Weather();
    private final SeasonRain view = new SeasonRain();
    private final ArrayList<Product> products = new ArrayList<>();
    private final ArrayList<Farm> farms = new ArrayList<>();
    private final ArrayList<Cover> covers = new ArrayList<>();
    private final Books accounts = new Books();
    private final int[] settledOn = new int[SEASONS];
    private Product draft = new Product(0);
    private int today = 0;
    private int loadingNow = 30;
    private int retentionNow = 5000;
    private int layerNow = 5000;

    public RainIndex() {
        Arrays.fill(settledOn, NONE);
    }

    // ---- stations, rain, days

    public int station(int x, int y) throws IllegalArgumentException, IllegalStateException {
        testPlace(x, y);
        if (weather.stations.size() >= MOST_STATIONS || weather.tellings > 0) {
            throw new IllegalStateException("there are 5 stations, or rain was told");
        }
        weather.stations.add(new Station(weather.stations.size(), x, y));
        return weather.stations.size() - 1;
    }

    public int rain(int station, int day, int tenths) throws IndexOutOfBoundsException, IllegalArgumentException {
        Station place = stationNumbered(station);
        if (!isWithin(day, 0, today) || !isWithin(tenths, 0, MOST_RAIN)) {
            throw new IllegalArgumentException("day or tenths is out of range");
        }
        return weather.tell(place, day, tenths);
    }

    public int pass(int days) throws IllegalArgumentException, IllegalStateException {
        if (!isWithin(days, 1, MOST_DAYS_AT_ONCE)) {
            throw new IllegalArgumentException("days is out of range");
        }
        if (today + days >= DAYS) {
            throw new IllegalStateException("the day would be above 1199");
        }
        today += days;
        return today;
    }

    // ---- products, farms

    public int phase(int days, boolean isDry, int trigger, int exit, int weight)
            throws IllegalArgumentException, IllegalStateException {
        if (!isWithin(days, 1, MOST_PHASE_DAYS) || !isWithin(weight, 1, FULL_WEIGHT)
                || !isWithin(trigger, 0, MOST_CLAUSE) || !isWithin(exit, 0, MOST_CLAUSE)
                || (isDry ? trigger >= exit : trigger <= exit)) {
            throw new IllegalArgumentException("an argument is out of range");
        }
        if (draft.phases.size() >= MOST_PHASES) {
            throw new IllegalStateException("the product has 3 phases");
        }
        draft.phases.add(new Phase(days, isDry, trigger, exit, weight));
        return draft.phases.size();
    }

    public int product(int known) throws IllegalArgumentException, IllegalStateException {
        testKnown(known);
        if (draft.phases.isEmpty() || products.size() >= MOST_PRODUCTS) {
            throw new IllegalStateException("the product has no phase, or there are 6");
        }
        draft.known = known;
        products.add(draft);
        draft = new Product(products.size());
        return products.size() - 1;
    }

    public int farm(int x, int y) throws IllegalArgumentException, IllegalStateException {
        testPlace(x, y);
        Station nearest = weather.nearestTo(x, y);
        if (farms.size() >= MOST_FARMS || nearest == null) {
            throw new IllegalStateException("there are 16 farms, or there is no station");
        }
        farms.add(new Farm(farms.size(), nearest));
        return farms.size() - 1;
    }

    public int lend(int farm, int amount)
            throws IndexOutOfBoundsException, IllegalArgumentException, IllegalStateException {
        Farm debtor = farmNumbered(farm);
        if (!isWithin(amount, 1, MOST_LENT)) {
            throw new IllegalArgumentException("amount is out of range");
        }
        if (debtor.debt + amount > MOST_DEBT) {
            throw new IllegalStateException("the debt would be above 99999");
        }
        debtor.debt += amount;
        return debtor.debt;
    }

    public int loading(int hundredths) throws IllegalArgumentException {
        if (!isWithin(hundredths, 0, MOST_LOADING)) {
            throw new IllegalArgumentException("hundredths is out of range");
        }
        int before = loadingNow;
        loadingNow = hundredths;
        return before;
    }

    public int layer(int retention, int layer) throws IllegalArgumentException {
        if (!isWithin(retention, 0, MOST_CAPITAL) || !isWithin(layer, 0, MOST_CAPITAL)) {
            throw new IllegalArgumentException("retention or layer is out of range");
        }
        int before = retentionNow;
        retentionNow = retention;
        layerNow = layer;
        return before;
    }

    // ---- covers, payouts

    public int sell(int farm, int product, int sum, int season)
            throws IndexOutOfBoundsException, IllegalArgumentException, IllegalStateException {
        Farm buyer = farmNumbered(farm);
        Product bought = productNumbered(product);
        testSeason(season);
        if (!isWithin(sum, 1, MOST_SUM)) {
            throw new IllegalArgumentException("sum is out of range");
        }
        if (covers.size() >= MOST_COVERS || !isOnSale(season) || coverOf(buyer, season) != null
                || buyer.trust < TRUST_TO_BUY) {
            throw new IllegalStateException("there are 60 covers, or this one can't be sold now");
        }
        int price = priceOf(sum, pricesRate(buyer.station, bought));
        int share = stateShare(price, sum);
        covers.add(new Cover(buyer, bought, sum, season, price, share));
        buyer.spent += price - share;
        accounts.prices += price;
        accounts.subsidies += share;
        return covers.size() - 1;
    }

    public int settle(int season) throws IndexOutOfBoundsException, IllegalStateException {
        testSeason(season);
        if (!isOver(season) || settledOn[season] != NONE) {
            throw new IllegalStateException("the season is not over, or settled");
        }
        settledOn[season] = today;
        int paid = payOut(season, findDues(season));
        accounts.paid += paid;
        accounts.carried += Math.min(Math.max(paid - retentionNow, 0), layerNow);
        return paid;
    }

    public int loss(int farm, int season, int hundredths)
            throws IndexOutOfBoundsException, IllegalArgumentException, IllegalStateException {
        Farm loser = farmNumbered(farm);
        testSeason(season);
        if (!isWithin(hundredths, 0, MOST_LOSS)) {
            throw new IllegalArgumentException("hundredths is out of range");
        }
        if (!hasBegun(season)) {
            throw new IllegalStateException("the season has not begun");
        }
        int before = loser.losses[season];
        loser.losses[season] = hundredths;
        return before;
    }

    public int complain(int farm, int season) throws IndexOutOfBoundsException, IllegalStateException {
        Farm complainer = farmNumbered(farm);
        testSeason(season);
        Cover cover = coverOf(complainer, season);
        if (settledOn[season] == NONE || cover == null || cover.hasComplained
                || today > settledOn[season] + COMPLAINT_DAYS) {
            throw new IllegalStateException("the farm can't complain about that season, or no more");
        }
        cover.hasComplained = true;
        return lookAgain(complainer.station, season);
    }

    // ---- what there is; nothing from here on changes anything

    public int day() {
        return today;
    }

    public int filled(int station, int day, int known) throws IndexOutOfBoundsException, IllegalArgumentException {
        Station place = stationNumbered(station);
        testKnown(known);
        if (!isWithin(day, 0, DAYS - 1)) {
            throw new IllegalArgumentException("day is out of range");
        }
        return weather.rainOn(place, day, known, weather.tellings);
    }

    public int onset(int station, int season, int known) throws IndexOutOfBoundsException, IllegalArgumentException {
        Station place = stationNumbered(station);
        testSeason(season);
        testKnown(known);
        view.fill(weather, place, season, known, weather.tellings);
        int start = view.start();
        return start == NONE ? NONE : firstDay(season) + start;
    }

    public int index(int station, int season, int product, int phase) throws IndexOutOfBoundsException {
        Station place = stationNumbered(station);
        testSeason(season);
        Product looked = productNumbered(product);
        if (phase < 0 || phase >= looked.phases.size()) {
            throw new IndexOutOfBoundsException("no such phase");
        }
        view.fill(weather, place, season, looked.known, weather.tellings);
        return looked.phases.get(phase).look(view, looked.startOf(phase, view));
    }

    public int rate(int station, int season, int product) throws IndexOutOfBoundsException {
        Station place = stationNumbered(station);
        testSeason(season);
        return rateBy(place, season, productNumbered(product), weather.tellings);
    }

    public int priced(int station, int product) throws IndexOutOfBoundsException {
        return pricesRate(stationNumbered(station), productNumbered(product));
    }

    public int cover(int cover, int what) throws IndexOutOfBoundsException, IllegalArgumentException {
        Cover asked = coverNumbered(cover);
        testWhat(what, 9);
        return asked.tell(what);
    }

    public int dueAnew(int cover) throws IndexOutOfBoundsException {
        Cover asked = coverNumbered(cover);
        if (asked.rate == NONE) {
            return NONE;
        }
        return asked.dueBy(rateBy(asked.farm.station, asked.season, asked.product, asked.settledBy));
    }

    public int told(int farm, int what) throws IndexOutOfBoundsException, IllegalArgumentException {
        Farm asked = farmNumbered(farm);
        testWhat(what, 4);
        return asked.tell(what);
    }

    public int books(int what) throws IllegalArgumentException {
        testWhat(what, 4);
        return accounts.tell(what);
    }

    // ---- arguments

    private static boolean isWithin(int number, int least, int most) {
        return number >= least && number <= most;
    }

    private static void testPlace(int x, int y) {
        if (!isWithin(x, 0, GRID - 1) || !isWithin(y, 0, GRID - 1)) {
            throw new IllegalArgumentException("x or y is out of range");
        }
    }

    private static void testKnown(int known) {
        if (known != FIRST && known != REVISED) {
            throw new IllegalArgumentException("known is out of range");
        }
    }

    private static void testWhat(int what, int most) {
        if (!isWithin(what, 0, most)) {
            throw new IllegalArgumentException("what is out of range");
        }
    }

    private static void testSeason(int season) {
        if (season < 0 || season >= SEASONS) {
            throw new IndexOutOfBoundsException("no such season");
        }
    }

    private Station stationNumbered(int number) {
        if (number < 0 || number >= weather.stations.size()) {
            throw new IndexOutOfBoundsException("no such station");
        }
        return weather.stations.get(number);
    }

    private Product productNumbered(int number) {
        if (number < 0 || number >= products.size()) {
            throw new IndexOutOfBoundsException("no such product");
        }
        return products.get(number);
    }

    private Farm farmNumbered(int number) {
        if (number < 0 || number >= farms.size()) {
            throw new IndexOutOfBoundsException("no such farm");
        }
        return farms.get(number);
    }

    private Cover coverNumbered(int number) {
        if (number < 0 || number >= covers.size()) {
            throw new IndexOutOfBoundsException("no such cover");
        }
        return covers.get(number);
    }

    // ---- seasons

    private static int firstDay(int season) {
        return season * SEASON_DAYS;
    }

    private boolean hasBegun(int season) {
        return today >= firstDay(season);
    }

    private boolean isOver(int season) {
        return today >= firstDay(season + 1);
    }

    private boolean isOnSale(int season) {
        return today >= firstDay(season) - SALE_DAYS && today < firstDay(season);
    }

    private int rateBy(Station station, int season, Product product, int tellings) {
        view.fill(weather, station, season, product.known, tellings);
        return product.rateIn(view);
    }

    // ---- prices

    private int pricesRate(Station station, Product product) {
        int over = 0;
        int rates = 0;
        for (int season = 0; season < SEASONS && isOver(season); season++) {
            over++;
            rates += rateBy(station, season, product, weather.tellings);
        }
        return over == 0 ? RATE_WITHOUT_SEASONS : rates / over;
    }

    private int priceOf(int sum, int pricesRate) {
        int expected = sum * pricesRate / FULL_RATE;
        return expected + expected * loadingNow / 100;
    }

    private static int stateShare(int price, int sum) {
        return sum < 1 ? 0 : price * Math.min(sum, SUBSIDISED_SUM) / sum / 2;
    }

    // ---- payouts

    private Cover coverOf(Farm farm, int season) {
        for (int i = 0; i < covers.size(); i++) {
            Cover cover = covers.get(i);
            if (cover.farm == farm && cover.season == season) {
                return cover;
            }
        }
        return null;
    }

    private int findDues(int season) {
        int all = 0;
        for (int i = 0; i < covers.size(); i++) {
            Cover cover = covers.get(i);
            if (cover.season == season) {
                cover.settledBy = weather.tellings;
                cover.rate = rateBy(cover.farm.station, season, cover.product, weather.tellings);
                cover.due = cover.dueBy(cover.rate);
                all += cover.due;
            }
        }
        return all;
    }

    private int payOut(int season, int allDue) {
        int paid = 0;
        for (int i = 0; i < covers.size(); i++) {
            Cover cover = covers.get(i);
            if (cover.season == season) {
                cover.paid = cutToCap(cover.due, allDue);
                cover.setOff = cover.farm.receive(cover.paid);
                cover.farm.judge(cover.paid, season);
                paid += cover.paid;
            }
        }
        return paid;
    }

    private int cutToCap(int due, int allDue) {
        int cap = retentionNow + layerNow;
        return allDue > 0 && allDue > cap ? due * cap / allDue : due;
    }

    // ---- second looks

    private int lookAgain(Station station, int season) {
        int mean = meanLoss(station, season);
        if (station.lookedAgain[season] || mean == NONE || !mostComplained(station, season)) {
            return 0;
        }
        // Once for all: a look that pays nothing is the station's only one of the season, too.
        station.lookedAgain[season] = true;
        int more = 0;
        for (int i = 0; i < covers.size(); i++) {
            Cover cover = covers.get(i);
            if (cover.isOf(station, season)) {
                more += cover.payMore(mean);
            }
        }
        accounts.paid += more;
        return more;
    }

    private int meanLoss(Station station, int season) {
        int losses = 0;
        int together = 0;
        for (int i = 0; i < covers.size(); i++) {
            Cover cover = covers.get(i);
            if (cover.isOf(station, season) && cover.farm.lossIn(season) != NONE) {
                losses++;
                together += cover.farm.lossIn(season);
            }
        }
        return losses == 0 ? NONE : together / losses;
    }

    private boolean mostComplained(Station station, int season) {
        int all = 0;
        int complained = 0;
        for (int i = 0; i < covers.size(); i++) {
            Cover cover = covers.get(i);
            if (cover.isOf(station, season)) {
                all++;
                complained += cover.hasComplained ? 1 : 0;
            }
        }
        return 2 * complained > all;
    }

    /** The stations, and how often rain was told, which tells what was known at any time. */
    private static final class Weather {
        final ArrayList<Station> stations = new ArrayList<>();
        int tellings = 0;

        int tell(Station station, int day, int tenths) {
            int before = station.datum(day, REVISED, tellings);
            // No run that is promised anything tells more, and what is kept stays bounded.
            if (tellings < MOST_TELLINGS) {
                station.keep(day, tenths, tellings);
                tellings++;
            }
            return before;
        }

        Station nearestTo(int x, int y) {
            Station nearest = null;
            for (int i = 0; i < stations.size(); i++) {
                Station station = stations.get(i);
                if (nearest == null || station.distanceTo(x, y) < nearest.distanceTo(x, y)) {
                    nearest = station;
                }
            }
            return nearest;
        }

        int rainOn(Station station, int day, int known, int tellingsThen) {
            int rain = station.datum(day, known, tellingsThen);
            if (rain != NONE) {
                return rain;
            }
            rain = 0;
            Station nearest = null;
            for (int i = 0; i < stations.size(); i++) {
                Station other = stations.get(i);
                int datum = other.datum(day, known, tellingsThen);
                if (datum != NONE && (nearest == null
                        || other.distanceTo(station.x, station.y) < nearest.distanceTo(station.x, station.y))) {
                    nearest = other;
                    rain = datum;
                }
            }
            return rain;
        }
    }

    private static final class Station {
        final int number;
        final int x;
        final int y;
        final Telling[] latest = new Telling[DAYS];
        final boolean[] lookedAgain = new boolean[SEASONS];

        Station(int number, int x, int y) {
            this.number = number;
            this.x = x;
            this.y = y;
        }

        int distanceTo(int column, int row) {
            return (x - column) * (x - column) + (y - row) * (y - row);
        }

        void keep(int day, int tenths, int telling) {
            if (day >= 0 && day < latest.length) {
                latest[day] = new Telling(telling, tenths, latest[day]);
            }
        }

        int datum(int day, int known, int tellingsThen) {
            Telling telling = day < 0 || day >= latest.length ? null : latest[day];
            while (telling != null && telling.number >= tellingsThen) {
                telling = telling.before;
            }
            if (telling == null) {
                return NONE;
            }
            return known == FIRST ? telling.first : telling.tenths;
        }
    }

    /** What was told of a station's day; the earlier tellings stay, as payouts are found anew by what was known. */
    private static final class Telling {
        final int number;
        final int tenths;
        final int first;
        final Telling before;

        Telling(int number, int tenths, Telling before) {
            this.number = number;
            this.tenths = tenths;
            this.first = before == null ? tenths : before.first;
            this.before = before;
        }
    }

    /** The rain of one season, gaps filled; days are counted from the season's first. Each look fills it anew. */
    private static final class SeasonRain {
        final int[] tenths = new int[SEASON_DAYS];

        void fill(Weather weather, Station station, int season, int known, int tellings) {
            for (int day = 0; day < tenths.length; day++) {
                tenths[day] = weather.rainOn(station, firstDay(season) + day, known, tellings);
            }
        }

        int sum(int from, int to) {
            int sum = 0;
            for (int day = Math.max(from, 0); day < to && day < tenths.length; day++) {
                sum += tenths[day];
            }
            return sum;
        }

        int drySpell(int from, int to) {
            int longest = 0;
            int spell = 0;
            for (int day = Math.max(from, 0); day < to && day < tenths.length; day++) {
                spell = tenths[day] < DRY_BELOW ? spell + 1 : 0;
                longest = Math.max(longest, spell);
            }
            return longest;
        }

        int start() {
            for (int day = ONSET_DAYS - 1; day < tenths.length; day++) {
                if (sum(day - ONSET_DAYS + 1, day + 1) >= ONSET_RAIN
                        && drySpell(day + 1, day + 1 + FALSE_START_WITHIN) < FALSE_START_SPELL) {
                    return day;
                }
            }
            return NONE;
        }
    }

    private static final class Phase {
        final int days;
        final boolean isDry;
        final int trigger;
        final int exit;
        final int weight;

        Phase(int days, boolean isDry, int trigger, int exit, int weight) {
            this.days = days;
            this.isDry = isDry;
            this.trigger = trigger;
            this.exit = exit;
            this.weight = weight;
        }

        int look(SeasonRain rain, int from) {
            if (from >= SEASON_DAYS) {
                return isDry ? SEASON_DAYS : 0;
            }
            return isDry ? rain.drySpell(from, from + days) : rain.sum(from, from + days);
        }

        int pays(int looked) {
            int past = isDry ? looked - trigger : trigger - looked;
            int span = isDry ? exit - trigger : trigger - exit;
            if (past <= 0) {
                return 0;
            }
            return span <= 0 || past >= span ? FULL_RATE : FULL_RATE * past / span;
        }
    }

    private static final class Product {
        final int number;
        final ArrayList<Phase> phases = new ArrayList<>();
        int known = FIRST;

        Product(int number) {
            this.number = number;
        }

        /** The day of the season on which a phase starts; behind the season's end without an onset. */
        int startOf(int phase, SeasonRain rain) {
            int onset = rain.start();
            int start = onset == NONE ? SEASON_DAYS : onset + 1;
            for (int i = 0; i < phase && i < phases.size(); i++) {
                start += phases.get(i).days;
            }
            return start;
        }

        int rateIn(SeasonRain rain) {
            int start = startOf(0, rain);
            int rate = 0;
            for (int i = 0; i < phases.size(); i++) {
                Phase phase = phases.get(i);
                rate += phase.pays(phase.look(rain, start)) * phase.weight / FULL_WEIGHT;
                start += phase.days;
            }
            return Math.min(rate, FULL_RATE);
        }
    }

    private static final class Farm {
        final int number;
        final Station station;
        final int[] losses = new int[SEASONS];
        int trust = TRUST_AT_FIRST;
        int debt = 0;
        int got = 0;
        int spent = 0;

        Farm(int number, Station station) {
            this.number = number;
            this.station = station;
            Arrays.fill(losses, NONE);
        }

        int lossIn(int season) {
            return season < 0 || season >= losses.length ? NONE : losses[season];
        }

        /** Takes what is paid, and answers what of it is set off against the debt. */
        int receive(int paid) {
            int setOff = Math.min(debt, paid);
            debt -= setOff;
            got += paid - setOff;
            return setOff;
        }

        void judge(int paid, int season) {
            if (paid > 0) {
                trust = Math.min(trust + TRUST_WON, MOST_TRUST);
            } else if (lossIn(season) > LOSS_THAT_COSTS_TRUST) {
                trust = Math.max(trust - TRUST_LOST, 0);
            }
        }

        int tell(int what) {
            switch (what) {
                case 0: return station.number;
                case 1: return trust;
                case 2: return debt;
                case 3: return got;
                default: return spent;
            }
        }
    }

    private static final class Cover {
        final Farm farm;
        final Product product;
        final int sum;
        final int season;
        final int price;
        final int share;
        int settledBy = 0;
        int rate = NONE;
        int due = NONE;
        int paid = 0;
        int setOff = 0;
        boolean hasComplained = false;

        Cover(Farm farm, Product product, int sum, int season, int price, int share) {
            this.farm = farm;
            this.product = product;
            this.sum = sum;
            this.season = season;
            this.price = price;
            this.share = share;
        }

        boolean isOf(Station station, int ofSeason) {
            return farm.station == station && season == ofSeason;
        }

        int dueBy(int someRate) {
            return sum * someRate / FULL_RATE;
        }

        /** Pays what the mean loss of a second look is worth above what was paid. */
        int payMore(int mean) {
            if (rate / 10 + LOSS_BORNE >= mean) {
                return 0;
            }
            int more = Math.max(sum * (mean - LOSS_BORNE) / 100 - paid, 0);
            paid += more;
            farm.got += more;
            return more;
        }

        int tell(int what) {
            switch (what) {
                case 0: return farm.number;
                case 1: return product.number;
                case 2: return sum;
                case 3: return season;
                case 4: return price;
                case 5: return share;
                case 6: return rate;
                case 7: return due;
                case 8: return paid;
                default: return setOff;
            }
        }
    }

    private static final class Books {
        int prices = 0;
        int subsidies = 0;
        int paid = 0;
        int carried = 0;

        int tell(int what) {
            switch (what) {
                case 0: return prices;
                case 1: return subsidies;
                case 2: return paid;
                case 3: return carried;
                default: return prices + carried - paid;
            }
        }
    }
}
