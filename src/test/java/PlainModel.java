import java.util.ArrayList;
import java.util.HashMap;
import java.util.List;
import java.util.Map;

/**
 * The document a second time, written apart from the program and without a thought for speed: what can be found from
 * what was told is found anew at each call. Answers are those of RainIndex; an exception is the document's.
 */
final class PlainModel {
    private static final int NONE = -1;

    private final List<int[]> stations = new ArrayList<>();
    private final Map<Integer, List<int[]>> told = new HashMap<>();
    private int tellings = 0;
    private int today = 0;
    private List<int[]> draft = new ArrayList<>();
    private final List<List<int[]>> products = new ArrayList<>();
    private final List<Integer> productsKnown = new ArrayList<>();
    private final List<Integer> farmStations = new ArrayList<>();
    private final List<Integer> trusts = new ArrayList<>();
    private final List<Integer> debts = new ArrayList<>();
    private final Map<Integer, Integer> losses = new HashMap<>();
    private int loading = 30;
    private int retention = 5000;
    private int layer = 5000;
    private final List<Sold> covers = new ArrayList<>();
    private final Map<Integer, Integer> settledOn = new HashMap<>();
    private final Map<Integer, Integer> settledWith = new HashMap<>();
    private final List<Integer> complaints = new ArrayList<>();
    private final List<Integer> looks = new ArrayList<>();
    private int carried = 0;

    private static final class Sold {
        int farm;
        int product;
        int sum;
        int season;
        int price;
        int state;
        int atFirst;
        int more;
        int setOff;
    }

    private static void argument(boolean good) {
        if (!good) {
            throw new IllegalArgumentException();
        }
    }

    private static void state(boolean good) {
        if (!good) {
            throw new IllegalStateException();
        }
    }

    private static void number(int number, int count) {
        if (number < 0 || number >= count) {
            throw new IndexOutOfBoundsException();
        }
    }

    int station(int x, int y) {
        argument(x >= 0 && x <= 9 && y >= 0 && y <= 9);
        state(stations.size() != 5 && tellings == 0);
        stations.add(new int[] {x, y});
        return stations.size() - 1;
    }

    int rain(int station, int day, int tenths) {
        number(station, stations.size());
        argument(day >= 0 && day <= today && tenths >= 0 && tenths <= 2000);
        List<int[]> list = told.computeIfAbsent(station * 10000 + day, k -> new ArrayList<>());
        list.add(new int[] {tellings++, tenths});
        return list.size() == 1 ? NONE : list.get(list.size() - 2)[1];
    }

    int pass(int days) {
        argument(days >= 1 && days <= 60);
        state(today + days <= 1199);
        return today += days;
    }

    int phase(int days, boolean isDry, int trigger, int exit, int weight) {
        argument(days >= 1 && days <= 30);
        argument(trigger >= 0 && trigger <= 9999);
        argument(exit >= 0 && exit <= 9999);
        argument(isDry ? exit > trigger : exit < trigger);
        argument(weight >= 1 && weight <= 100);
        state(draft.size() < 3);
        draft.add(new int[] {days, isDry ? 1 : 0, trigger, exit, weight});
        return draft.size();
    }

    int product(int known) {
        argument(known == 0 || known == 1);
        state(!draft.isEmpty() && products.size() < 6);
        products.add(draft);
        productsKnown.add(known);
        draft = new ArrayList<>();
        return products.size() - 1;
    }

    private static int square(int n) {
        return n * n;
    }

    private static int distance(int[] a, int[] b) {
        return square(a[0] - b[0]) + square(a[1] - b[1]);
    }

    /** All stations by how near they are to a place, as near ones by their numbers. */
    private List<Integer> byNearness(int[] place) {
        List<Integer> order = new ArrayList<>();
        for (int i = 0; i < stations.size(); i++) {
            order.add(i);
        }
        order.sort((a, b) -> {
            int byDistance = Integer.compare(distance(stations.get(a), place), distance(stations.get(b), place));
            return byDistance != 0 ? byDistance : Integer.compare(a, b);
        });
        return order;
    }

    int farm(int x, int y) {
        argument(x >= 0 && x <= 9 && y >= 0 && y <= 9);
        state(farmStations.size() < 16 && !stations.isEmpty());
        farmStations.add(byNearness(new int[] {x, y}).get(0));
        trusts.add(50);
        debts.add(0);
        return farmStations.size() - 1;
    }

    int lend(int farm, int amount) {
        number(farm, farmStations.size());
        argument(amount >= 1 && amount <= 9999);
        state(debts.get(farm) + amount <= 99999);
        debts.set(farm, debts.get(farm) + amount);
        return debts.get(farm);
    }

    int loading(int hundredths) {
        argument(hundredths >= 0 && hundredths <= 200);
        int was = loading;
        loading = hundredths;
        return was;
    }

    int layer(int newRetention, int newLayer) {
        argument(newRetention >= 0 && newRetention <= 99999 && newLayer >= 0 && newLayer <= 99999);
        int was = retention;
        retention = newRetention;
        layer = newLayer;
        return was;
    }

    private Sold find(int farm, int season) {
        for (Sold cover : covers) {
            if (cover.farm == farm && cover.season == season) {
                return cover;
            }
        }
        return null;
    }

    int sell(int farm, int product, int sum, int season) {
        number(farm, farmStations.size());
        number(product, products.size());
        number(season, 20);
        argument(sum >= 1 && sum <= 2000);
        int ahead = season * 60 - today;
        state(covers.size() < 60 && ahead >= 1 && ahead <= 30 && find(farm, season) == null && trusts.get(farm) >= 20);
        Sold cover = new Sold();
        cover.farm = farm;
        cover.product = product;
        cover.sum = sum;
        cover.season = season;
        int bare = sum * priced(farmStations.get(farm), product) / 1000;
        cover.price = bare + bare * loading / 100;
        cover.state = cover.price * (sum > 500 ? 500 : sum) / sum / 2;
        covers.add(cover);
        return covers.size() - 1;
    }

    int settle(int season) {
        number(season, 20);
        state(today > season * 60 + 59 && !settledOn.containsKey(season));
        settledOn.put(season, today);
        settledWith.put(season, tellings);
        int due = 0;
        for (Sold cover : covers) {
            due += cover.season == season ? due(cover) : 0;
        }
        int paid = 0;
        for (Sold cover : covers) {
            if (cover.season == season) {
                boolean isCut = due > retention + layer;
                cover.atFirst = isCut ? (int) ((long) due(cover) * (retention + layer) / due) : due(cover);
                cover.setOff = Math.min(cover.atFirst, debts.get(cover.farm));
                debts.set(cover.farm, debts.get(cover.farm) - cover.setOff);
                int trust = trusts.get(cover.farm);
                int loss = lossOf(cover.farm, season);
                trusts.set(cover.farm, cover.atFirst > 0 ? Math.min(100, trust + 10)
                        : loss > 30 ? Math.max(0, trust - 20) : trust);
                paid += cover.atFirst;
            }
        }
        carried += paid <= retention ? 0 : Math.min(layer, paid - retention);
        return paid;
    }

    private int lossOf(int farm, int season) {
        return losses.getOrDefault(farm * 100 + season, NONE);
    }

    int loss(int farm, int season, int hundredths) {
        number(farm, farmStations.size());
        number(season, 20);
        argument(hundredths >= 0 && hundredths <= 100);
        state(season * 60 <= today);
        int was = lossOf(farm, season);
        losses.put(farm * 100 + season, hundredths);
        return was;
    }

    int complain(int farm, int season) {
        number(farm, farmStations.size());
        number(season, 20);
        state(settledOn.containsKey(season));
        state(find(farm, season) != null);
        state(!complaints.contains(farm * 100 + season));
        state(today - settledOn.get(season) <= 20);
        complaints.add(farm * 100 + season);
        int station = farmStations.get(farm);
        List<Sold> group = new ArrayList<>();
        List<Integer> heard = new ArrayList<>();
        int complained = 0;
        for (Sold cover : covers) {
            if (cover.season == season && farmStations.get(cover.farm) == station) {
                group.add(cover);
                complained += complaints.contains(cover.farm * 100 + season) ? 1 : 0;
                if (lossOf(cover.farm, season) != NONE) {
                    heard.add(lossOf(cover.farm, season));
                }
            }
        }
        if (complained * 2 <= group.size() || heard.isEmpty() || looks.contains(station * 100 + season)) {
            return 0;
        }
        looks.add(station * 100 + season);
        int mean = heard.stream().mapToInt(Integer::intValue).sum() / heard.size();
        int all = 0;
        for (Sold cover : group) {
            if (rateThen(cover) / 10 + 20 < mean) {
                cover.more = Math.max(0, cover.sum * (mean - 20) / 100 - cover.atFirst);
                all += cover.more;
            }
        }
        return all;
    }

    int day() {
        return today;
    }

    private int datum(int station, int day, int known, int by) {
        int answer = NONE;
        for (int[] telling : told.getOrDefault(station * 10000 + day, new ArrayList<>())) {
            if (telling[0] < by && (known == 1 || answer == NONE)) {
                answer = telling[1];
            }
        }
        return answer;
    }

    private int rainBy(int station, int day, int known, int by) {
        if (datum(station, day, known, by) != NONE) {
            return datum(station, day, known, by);
        }
        for (int other : byNearness(stations.get(station))) {
            if (other != station && datum(other, day, known, by) != NONE) {
                return datum(other, day, known, by);
            }
        }
        return 0;
    }

    int filled(int station, int day, int known) {
        number(station, stations.size());
        argument(day >= 0 && day <= 1199 && (known == 0 || known == 1));
        return rainBy(station, day, known, tellings);
    }

    private int[] season(int station, int season, int known, int by) {
        int[] row = new int[60];
        for (int i = 0; i < 60; i++) {
            row[i] = rainBy(station, season * 60 + i, known, by);
        }
        return row;
    }

    private static boolean isFalseStart(int[] row, int day) {
        for (int first = day + 1; first + 6 <= day + 15 && first + 6 <= 59; first++) {
            boolean isDry = true;
            for (int i = first; i < first + 7; i++) {
                isDry &= row[i] <= 9;
            }
            if (isDry) {
                return true;
            }
        }
        return false;
    }

    private static int onset(int[] row) {
        for (int day = 2; day < 60; day++) {
            if (row[day - 2] + row[day - 1] + row[day] >= 200 && !isFalseStart(row, day)) {
                return day;
            }
        }
        return NONE;
    }

    int onset(int station, int season, int known) {
        number(station, stations.size());
        number(season, 20);
        argument(known == 0 || known == 1);
        int found = onset(season(station, season, known, tellings));
        return found < 0 ? NONE : season * 60 + found;
    }

    private static int look(int[] row, List<int[]> phases, int phase) {
        boolean isDry = phases.get(phase)[1] == 1;
        int onset = onset(row);
        int from = onset + 1;
        for (int i = 0; i < phase; i++) {
            from += phases.get(i)[0];
        }
        if (onset < 0 || from > 59) {
            return isDry ? 60 : 0;
        }
        int to = Math.min(60, from + phases.get(phase)[0]);
        int sum = 0;
        int most = 0;
        for (int first = from; first < to; first++) {
            sum += row[first];
            int length = 0;
            while (first + length < to && row[first + length] < 10) {
                length++;
            }
            most = Math.max(most, length);
        }
        return isDry ? most : sum;
    }

    private static int rate(int[] row, List<int[]> phases) {
        int all = 0;
        for (int i = 0; i < phases.size(); i++) {
            int[] phase = phases.get(i);
            int seen = look(row, phases, i);
            int pays;
            if (phase[1] == 0) {
                pays = seen >= phase[2] ? 0 : seen <= phase[3] ? 1000 : 1000 * (phase[2] - seen) / (phase[2] - phase[3]);
            } else {
                pays = seen <= phase[2] ? 0 : seen >= phase[3] ? 1000 : 1000 * (seen - phase[2]) / (phase[3] - phase[2]);
            }
            all += pays * phase[4] / 100;
        }
        return all > 1000 ? 1000 : all;
    }

    int index(int station, int season, int product, int phase) {
        number(station, stations.size());
        number(season, 20);
        number(product, products.size());
        number(phase, products.get(product).size());
        return look(season(station, season, productsKnown.get(product), tellings), products.get(product), phase);
    }

    int rate(int station, int season, int product) {
        number(station, stations.size());
        number(season, 20);
        number(product, products.size());
        return rate(season(station, season, productsKnown.get(product), tellings), products.get(product));
    }

    int priced(int station, int product) {
        number(station, stations.size());
        number(product, products.size());
        int all = 0;
        int over = 0;
        while ((over + 1) * 60 <= today) {
            all += rate(station, over, product);
            over++;
        }
        return over == 0 ? 100 : all / over;
    }

    private int rateThen(Sold cover) {
        return rate(season(farmStations.get(cover.farm), cover.season, productsKnown.get(cover.product),
                settledWith.get(cover.season)), products.get(cover.product));
    }

    private int due(Sold cover) {
        return cover.sum * rateThen(cover) / 1000;
    }

    int cover(int cover, int what) {
        number(cover, covers.size());
        argument(what >= 0 && what <= 9);
        Sold c = covers.get(cover);
        boolean isSettled = settledOn.containsKey(c.season);
        int[] facts = {c.farm, c.product, c.sum, c.season, c.price, c.state, isSettled ? rateThen(c) : NONE,
            isSettled ? due(c) : NONE, c.atFirst + c.more, c.setOff};
        return facts[what];
    }

    int dueAnew(int cover) {
        return cover(cover, 7);
    }

    int told(int farm, int what) {
        number(farm, farmStations.size());
        argument(what >= 0 && what <= 4);
        int got = 0;
        int spent = 0;
        for (Sold cover : covers) {
            if (cover.farm == farm) {
                got += cover.atFirst - cover.setOff + cover.more;
                spent += cover.price - cover.state;
            }
        }
        return new int[] {farmStations.get(farm), trusts.get(farm), debts.get(farm), got, spent}[what];
    }

    int books(int what) {
        argument(what >= 0 && what <= 4);
        int[] all = {0, 0, 0, carried, 0};
        for (Sold cover : covers) {
            all[0] += cover.price;
            all[1] += cover.state;
            all[2] += cover.atFirst + cover.more;
        }
        all[4] = all[0] + all[3] - all[2];
        return all[what];
    }
}
