/** The boundary cases under "Products", a test for each sentence that names one. */
public final class ProductsBoundsTest {
    private static final int FIRST = Scenes.FIRST;
    private static final int REVISED = Scenes.REVISED;

    public static void main(String[] args) {
        productsAreNumberedFrom0AtMost6();
        productsHave1To3Phases();
        phasesHave1To30Days();
        knownAsTheProductTells();
        aSumAtTheTrigger();
        aSumAtTheExit();
        aSumBetween();
        sumsAtTheirLimits();
        aSpellAtTheTrigger();
        aSpellAtTheExit();
        aSpellBetween();
        spellsAtTheirLimits();
        withoutAnOnset();
        weightsOf1To100();
        weightsAreRoundedDownOneByOne();
        together1000AtMost();
        Check.report("ProductsBoundsTest");
    }

    /** "Products are numbered from 0, at most 6" */
    private static void productsAreNumberedFrom0AtMost6() {
        RainIndex x = Scenes.oneStation();
        for (int i = 0; i < 6; i++) {
            int number = i;
            Check.refused("no product yet of " + i, Scenes.INDEX, () -> x.priced(0, number));
            x.phase(1, true, 0, 1, 10 + i);
            Check.same("product " + i, x.product(i % 2), i);
            Check.same("a product of " + i, x.rate(0, 0, i), 100 + 10 * i);
        }
        x.phase(1, true, 0, 1, 99);
        Check.refused("a seventh", Scenes.STATE, () -> x.product(FIRST));
        Check.refused("no product of 6", Scenes.INDEX, () -> x.priced(0, 6));
        Check.same("the sixth stays", x.rate(0, 0, 5), 150);
        Check.same("the first stays", x.rate(0, 0, 0), 100);
    }

    /** "and 1 to 3 phases" */
    private static void productsHave1To3Phases() {
        RainIndex x = Scenes.oneStation();
        Check.refused("none", Scenes.STATE, () -> x.product(FIRST));
        for (int count = 1; count <= 3; count++) {
            for (int i = 0; i < count; i++) {
                Check.same("phases then", x.phase(1, true, 0, 1, 10), i + 1);
            }
            if (count == 3) {
                Check.refused("four", Scenes.STATE, () -> x.phase(1, true, 0, 1, 10));
            }
            int product = x.product(FIRST);
            Check.same("the rate of " + count, x.rate(0, 0, product), 100 * count);
            Check.same("its last phase", x.index(0, 0, product, count - 1), 60);
            int behind = count;
            Check.refused("no phase behind it", Scenes.INDEX, () -> x.index(0, 0, product, behind));
            Check.refused("the next one has none", Scenes.STATE, () -> x.product(FIRST));
        }
    }

    /** "each with days, 1 to 30": rain on the 1st, the 29th, the 30th and the 31st day behind the onset. */
    private static void phasesHave1To30Days() {
        int[] lengths = {1, 2, 28, 29, 30};
        int[] due = {990, 990, 990 + 20, 990 + 20 + 100, 990 + 20 + 100 + 30};
        RainIndex x = Scenes.oneStation();
        Scenes.passTo(x, 59);
        Scenes.tell(x, 0, 0, 2, 200, 3, 990, 9, 10, 16, 10, 31, 100, 32, 30, 33, 2000);
        for (int i = 0; i < lengths.length; i++) {
            x.phase(lengths[i], false, 1, 0, 1);
            Check.same("the sum of " + lengths[i] + " days", x.index(0, 0, x.product(FIRST), 0), due[i]);
        }
        Check.refused("0 days", Scenes.ARGUMENT, () -> x.phase(0, false, 1, 0, 1));
        Check.refused("31 days", Scenes.ARGUMENT, () -> x.phase(31, false, 1, 0, 1));
        Check.refused("neither is a phase", Scenes.STATE, () -> x.product(FIRST));
    }

    /** "how data are known, FIRST or REVISED" */
    private static void knownAsTheProductTells() {
        RainIndex x = Scenes.oneStation();
        Scenes.slope(x, FIRST);
        Scenes.slope(x, REVISED);
        Scenes.passTo(x, 60);
        Scenes.lateOnset(x, 0, 0, 300);
        Check.same("told once, by first data", x.rate(0, 0, 0), 700);
        Check.same("told once, by revised data", x.rate(0, 0, 1), 700);
        Scenes.tell(x, 0, 0, 54, 80);
        Check.same("told twice, by first data", x.rate(0, 0, 0), 700);
        Check.same("told twice, by revised data", x.rate(0, 0, 1), 920);
        Scenes.tell(x, 0, 0, 53, 199, 54, 0);
        Check.same("an onset by first data", x.index(0, 0, 0, 0), 300);
        Check.same("no onset by revised data", x.index(0, 0, 1, 0), 0);
        Check.same("priced by first data", x.priced(0, 0), 700);
        Check.same("priced by revised data", x.priced(0, 1), 1000);
    }

    /** By a phase of so many days behind a late onset, with so much rain on the first five of them. */
    private static int bySum(int rain, int trigger, int exit, int weight) {
        RainIndex x = Scenes.oneStation();
        x.phase(5, false, trigger, exit, weight);
        x.product(FIRST);
        Scenes.passTo(x, 59);
        Scenes.tell(x, 0, 0, 53, 200);
        int left = rain;
        for (int day = 54; day < 59; day++) {
            Scenes.tell(x, 0, 0, day, Math.min(left, 2000));
            left -= Math.min(left, 2000);
        }
        Check.same("the sum", x.index(0, 0, 0, 0), rain);
        return x.rate(0, 0, 0);
    }

    /** "by its sum: none if that is the trigger or more" */
    private static void aSumAtTheTrigger() {
        Check.same("1 above", bySum(301, 300, 100, 100), 0);
        Check.same("at it", bySum(300, 300, 100, 100), 0);
        Check.same("1 below", bySum(299, 300, 100, 100), 5);
        Check.same("1 above 1", bySum(2, 1, 0, 100), 0);
        Check.same("at 1", bySum(1, 1, 0, 100), 0);
        Check.same("1 below 1", bySum(0, 1, 0, 100), 1000);
    }

    /** "1000 if it is the exit or less" */
    private static void aSumAtTheExit() {
        Check.same("1 above", bySum(101, 300, 100, 100), 995);
        Check.same("at it", bySum(100, 300, 100, 100), 1000);
        Check.same("1 below", bySum(99, 300, 100, 100), 1000);
        Check.same("1 above 0", bySum(1, 3, 0, 100), 666);
        Check.same("at 0", bySum(0, 3, 0, 100), 1000);
    }

    /** "otherwise 1000 times what it is less than the trigger, divided by what the exit is less than that" */
    private static void aSumBetween() {
        Check.same("half way", bySum(200, 300, 100, 100), 500);
        Check.same("rounded down from 333.3", bySum(2, 3, 0, 100), 333);
        Check.same("rounded down from 666.6", bySum(1, 3, 0, 100), 666);
        Check.same("rounded down from 142.8", bySum(106, 107, 100, 100), 142);
        Check.same("rounded down to 0", bySum(1000, 1001, 0, 100), 0);
        Check.same("just 1", bySum(1000, 1001, 1, 100), 1);
        Check.same("just below 1000", bySum(1, 1001, 0, 100), 999);
    }

    /** "a trigger and an exit", 0 to 9999 */
    private static void sumsAtTheirLimits() {
        Check.same("above 9999", bySum(10000, 9999, 9998, 100), 0);
        Check.same("at 9999", bySum(9999, 9999, 9998, 100), 0);
        Check.same("below 9999", bySum(9998, 9999, 9998, 100), 1000);
        Check.same("far below 9999", bySum(0, 9999, 9998, 100), 1000);
        Check.same("between all", bySum(9998, 9999, 0, 100), 0);
        Check.same("between all, 10 below", bySum(9989, 9999, 0, 100), 1);
        Check.same("between all, 1 above", bySum(1, 9999, 0, 100), 999);
        Check.same("at 0 of all", bySum(0, 9999, 0, 100), 1000);
    }

    /** By a phase of the season's last six days, of which the first ones are dry. */
    private static int bySpell(int dryDays, int trigger, int exit) {
        RainIndex x = Scenes.oneStation();
        x.phase(6, true, trigger, exit, 100);
        x.product(FIRST);
        Scenes.passTo(x, 59);
        Scenes.tell(x, 0, 0, 53, 200);
        for (int day = 54 + dryDays; day < 60; day++) {
            Scenes.tell(x, 0, 0, day, 10);
        }
        Check.same("the spell", x.index(0, 0, 0, 0), dryDays);
        return x.rate(0, 0, 0);
    }

    /** "by its dry spell: none if that is the trigger or less" */
    private static void aSpellAtTheTrigger() {
        Check.same("1 below", bySpell(1, 2, 5), 0);
        Check.same("at it", bySpell(2, 2, 5), 0);
        Check.same("1 above", bySpell(3, 2, 5), 333);
        Check.same("at 0", bySpell(0, 0, 1), 0);
        Check.same("1 above 0", bySpell(1, 0, 1), 1000);
    }

    /** "1000 if it is the exit or more" */
    private static void aSpellAtTheExit() {
        Check.same("1 below", bySpell(4, 2, 5), 666);
        Check.same("at it", bySpell(5, 2, 5), 1000);
        Check.same("1 above", bySpell(6, 2, 5), 1000);
        Check.same("the exit just above the trigger, at it", bySpell(5, 5, 6), 0);
        Check.same("the exit just above the trigger, beside it", bySpell(6, 5, 6), 1000);
    }

    /** "otherwise 1000 times what it is more than the trigger, divided by what the exit is more than that" */
    private static void aSpellBetween() {
        Check.same("a third", bySpell(3, 2, 5), 333);
        Check.same("two thirds", bySpell(4, 2, 5), 666);
        Check.same("a half", bySpell(3, 0, 6), 500);
        Check.same("a seventh", bySpell(1, 0, 7), 142);
        Check.same("6 sevenths", bySpell(6, 0, 7), 857);
        Check.same("rounded down to 0", bySpell(1, 0, 1001), 0);
        Check.same("just 1", bySpell(1, 0, 1000), 1);
    }

    /** "a trigger and an exit", 0 to 9999 */
    private static void spellsAtTheirLimits() {
        Check.same("of 0 and 9999", bySpell(6, 0, 9999), 0);
        Check.same("below 9998", bySpell(6, 9998, 9999), 0);
        Check.same("none of 0 and 9999", bySpell(0, 0, 9999), 0);
    }

    private static int dry60(int trigger, int exit) {
        RainIndex x = Scenes.oneStation();
        x.phase(1, true, trigger, exit, 100);
        x.product(FIRST);
        return x.rate(0, 0, 0);
    }

    /** Without an onset a sum of 0 and a dry spell of 60 are paid as any are. */
    private static void withoutAnOnset() {
        Check.same("60 at the exit", dry60(59, 60), 1000);
        Check.same("60 above the exit", dry60(58, 59), 1000);
        Check.same("60 below the exit", dry60(59, 61), 500);
        Check.same("60 at the trigger", dry60(60, 61), 0);
        Check.same("60 below the trigger", dry60(61, 62), 0);
        Check.same("60 above the trigger", dry60(0, 120), 500);
        RainIndex x = Scenes.oneStation();
        x.phase(1, false, 9999, 0, 100);
        x.product(FIRST);
        x.phase(1, false, 2, 1, 100);
        x.product(FIRST);
        Check.same("0 at the exit", x.rate(0, 0, 0), 1000);
        Check.same("0 below the exit", x.rate(0, 0, 1), 1000);
    }

    /** "and the weight, 1 to 100 hundredths" */
    private static void weightsOf1To100() {
        int[] weights = {1, 2, 50, 99, 100};
        for (int weight : weights) {
            Check.same("of 1000, weight " + weight, bySum(0, 300, 100, weight), 10 * weight);
            Check.same("of 0, weight " + weight, bySum(300, 300, 100, weight), 0);
            Check.same("of 995, weight " + weight, bySum(101, 300, 100, weight), 995 * weight / 100);
        }
        Check.same("of 995, weight 1", bySum(101, 300, 100, 1), 9);
        Check.same("of 995, weight 99", bySum(101, 300, 100, 99), 985);
        Check.same("99 of 100 hundredths of 1", bySum(1000, 1001, 1, 99), 0);
        Check.same("all hundredths of 1", bySum(1000, 1001, 1, 100), 1);
    }

    /** "each times its weight divided by 100 .. Divisions are rounded down" */
    private static void weightsAreRoundedDownOneByOne() {
        RainIndex x = Scenes.oneStation();
        for (int i = 0; i < 3; i++) {
            x.phase(1, false, 1000, 0, 50);
        }
        x.product(FIRST);
        Scenes.passTo(x, 59);
        Scenes.tell(x, 0, 0, 53, 200, 54, 999, 55, 999, 56, 999);
        Check.same("half of 1 three times", x.rate(0, 0, 0), 0);
        RainIndex y = Scenes.oneStation();
        for (int i = 0; i < 3; i++) {
            y.phase(1, false, 1000, 0, 50);
        }
        y.product(FIRST);
        Scenes.passTo(y, 59);
        Scenes.tell(y, 0, 0, 53, 200, 54, 997, 55, 998, 56, 997);
        Check.same("half of 3, 2 and 3", y.rate(0, 0, 0), 1 + 1 + 1);
    }

    /** Two phases that pay so much each, of full weight. */
    private static int together(int first, int second) {
        RainIndex x = Scenes.oneStation();
        x.phase(1, false, 1000, 0, 100);
        x.phase(1, false, 1000, 0, 100);
        x.product(FIRST);
        Scenes.passTo(x, 60);
        Scenes.tell(x, 0, 0, 53, 200, 54, 1000 - first, 55, 1000 - second);
        Check.same("priced", x.priced(0, 0), x.rate(0, 0, 0));
        return x.rate(0, 0, 0);
    }

    /** "at most 1000" */
    private static void together1000AtMost() {
        Check.same("999", together(500, 499), 999);
        Check.same("1000", together(500, 500), 1000);
        Check.same("1001", together(500, 501), 1000);
        Check.same("1000 by the first", together(1000, 0), 1000);
        Check.same("1001 by the second", together(1, 1000), 1000);
        Check.same("2000", together(1000, 1000), 1000);
        RainIndex x = Scenes.oneStation();
        int[][] weights = {{33, 33, 33}, {33, 33, 34}, {33, 34, 34}, {100, 100, 100}};
        int[] due = {990, 1000, 1000, 1000};
        for (int i = 0; i < 4; i++) {
            for (int weight : weights[i]) {
                x.phase(1, true, 0, 1, weight);
            }
            Check.same("weights of " + java.util.Arrays.toString(weights[i]), x.rate(0, 0, x.product(FIRST)), due[i]);
        }
    }
}
