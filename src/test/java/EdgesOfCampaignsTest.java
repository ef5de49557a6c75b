/** The ends of what the document says of CAMPAIGNS and the BEST price, and in promises 6 to 10. */
final class EdgesOfCampaignsTest {
    private EdgesOfCampaignsTest() {
    }

    public static void main(String[] args) {
        numbers();
        forAllChains();
        allPairsCanBar();
        least();
        leastAtItsEnds();
        hundredthsRoundedDown();
        valueItself();
        bestByNone();
        bestByOne();
        bestBySeveral();
        inAnyOrder();
        eachOnceAtMost();
        noTwoThatBar();
        leastByThePriceThen();
        notByTheBiggestStep();
        theHigherOfTwoPricesCanGoOn();
        theHigherOfTwoPricesCanGoOnAnywhere();
        hundredthsOfThePriceThen();
        campaignIsAdded();
        inHundredthsOrNot();
        value();
        valueAtItsEnds();
        leastRange();
        campaignNumber();
        campaignOutOfRange();
        campaignOfTheSeventh();
        barOrNotAnyMore();
        barBefore();
        barWithoutCampaign();
        barOfTheSame();
        best();
        bestRange();
        bestIsNotBelowZero();
        bestOutOfRange();
        bestAnew();
        bestAnewOutOfRange();
        fewest();
        fewestOfNone();
        fewestRange();
        fewestOutOfRange();
        Check.end();
    }

    private static void prices(Works x, int price, int best, int fewest) {
        Check.due("best(" + price + ")", x.best(price), best);
        Check.due("bestAnew(" + price + ")", x.bestAnew(price), best);
        Check.due("fewest(" + price + ")", x.fewest(price), fewest);
    }

    private static Works with(boolean isPercent, int value, int least) {
        Works x = new Works();
        x.campaign(isPercent, value, least);
        return x;
    }

    private static Works six() {
        Works x = new Works();
        for (int i = 0; i < 6; i++) {
            x.campaign(false, 1 << i, 0);
        }
        return x;
    }

    // ---- terms

    private static final String NUMBERS = "CAMPAIGNS are numbered from 0, at most 6, and hold for all CHAINS.";

    private static void numbers() {
        Check.sentence(0, NUMBERS);
        Works x = new Works();
        for (int i = 0; i < 6; i++) {
            Check.due("number", x.campaign(i % 2 == 0, 10, 0), i);
        }
        Check.notNow("a seventh in hundredths", x, () -> x.campaign(true, 10, 0));
        Check.notNow("a seventh", x, () -> x.campaign(false, 10, 0));
        Check.due("the sixth holds", x.bar(5, 0, true), false);
    }

    private static void forAllChains() {
        Check.sentence(0, NUMBERS);
        Works x = with(false, 3, 0);
        for (int chain = 0; chain <= 3; chain++) {
            x.sell(chain, chain % 3, 10);
            x.pay(chain, 10);
            Check.due("of chain " + chain, x.ofPayment(chain, 1), 7);
        }
        x.die(2, 0);
        prices(x, 10, 7, 1);
    }

    private static void allPairsCanBar() {
        Check.sentence(0, "Each has a VALUE and a LEAST; two of them can BAR each other.");
        for (int one = 0; one < 6; one++) {
            for (int other = 0; other < 6; other++) {
                if (one != other) {
                    Works x = six();
                    x.bar(one, other, true);
                    prices(x, 100, 100 - 63 + (1 << Math.min(one, other)), 5);
                    Check.due("the other one BARS the one", x.bar(other, one, false), true);
                    prices(x, 100, 37, 6);
                }
            }
        }
    }

    private static final String APPLY = "To apply one to a price that is its LEAST or more makes it less: by VALUE"
        + " hundredths of it, these rounded down, or by VALUE itself, to 0 at least; to a lower price it cannot be applied.";

    private static void least() {
        Check.sentence(0, APPLY);
        for (boolean isPercent : new boolean[] {false, true}) {
            Works x = with(isPercent, 50, 100);
            prices(x, 99, 99, 0);
            prices(x, 100, 50, 1);
            prices(x, 101, 51, 1);
        }
    }

    private static void leastAtItsEnds() {
        Check.sentence(0, APPLY);
        Works most = with(false, 1, 500);
        prices(most, 499, 499, 0);
        prices(most, 500, 499, 1);
        prices(most, 1000, 999, 1);
        Works none = with(false, 1, 0);
        prices(none, 1, 0, 1);
        Works one = with(false, 1, 1);
        prices(one, 1, 0, 1);
        Works two = with(false, 1, 2);
        prices(two, 1, 1, 0);
        prices(two, 2, 1, 1);
    }

    private static void hundredthsRoundedDown() {
        Check.sentence(0, APPLY);
        Works one = with(true, 1, 0);
        prices(one, 1, 1, 0);
        prices(one, 99, 99, 0);
        prices(one, 100, 99, 1);
        prices(one, 199, 198, 1);
        prices(one, 200, 198, 1);
        prices(one, 1000, 990, 1);
        Works most = with(true, 90, 0);
        prices(most, 1, 1, 0);
        prices(most, 2, 1, 1);
        prices(most, 9, 1, 1);
        prices(most, 10, 1, 1);
        prices(most, 11, 2, 1);
        prices(most, 1000, 100, 1);
    }

    private static void valueItself() {
        Check.sentence(0, APPLY);
        Works x = with(false, 200, 0);
        prices(x, 1, 0, 1);
        prices(x, 199, 0, 1);
        prices(x, 200, 0, 1);
        prices(x, 201, 1, 1);
        prices(x, 1000, 800, 1);
    }

    private static final String BEST = "The BEST price for a price is the least that one gets from it by applying some"
        + " CAMPAIGNS, none or several, one behind the other in any order, each once at most, of which no two BAR each"
        + " other; LEAST is looked at by the price as it is then.";

    private static void bestByNone() {
        Check.sentence(0, BEST);
        prices(new Works(), 1, 1, 0);
        prices(new Works(), 1000, 1000, 0);
        prices(with(false, 200, 500), 499, 499, 0);
        prices(with(true, 90, 500), 499, 499, 0);
    }

    private static void bestByOne() {
        Check.sentence(0, BEST);
        Works x = new Works();
        x.campaign(false, 50, 0);
        x.campaign(true, 50, 0);
        x.bar(0, 1, true);
        prices(x, 99, 49, 1);
        prices(x, 100, 50, 1);
        prices(x, 101, 51, 1);
        prices(x, 102, 51, 1);
        prices(x, 104, 52, 1);
    }

    private static void bestBySeveral() {
        Check.sentence(0, BEST);
        prices(six(), 63, 0, 6);
        prices(six(), 64, 1, 6);
        prices(six(), 62, 0, 5);
        prices(six(), 1000, 937, 6);
    }

    private static void inAnyOrder() {
        Check.sentence(0, BEST);
        for (int first = 0; first <= 1; first++) {
            Works x = new Works();
            x.campaign(first == 0, 50, 0);
            x.campaign(first != 0, 50, 0);
            // Hundredths first: 200, 100, 50; the other way round: 200, 150, 75.
            prices(x, 200, 50, 2);
            prices(x, 100, 0, 2);
            prices(x, 101, 1, 2);
        }
    }

    private static void eachOnceAtMost() {
        Check.sentence(0, BEST);
        prices(with(false, 100, 0), 300, 200, 1);
        prices(with(true, 90, 0), 1000, 100, 1);
        Works two = new Works();
        two.campaign(false, 100, 0);
        two.campaign(false, 100, 0);
        prices(two, 300, 100, 2);
    }

    /** 0 BARS 1, and 1 BARS 2; 0 and 2 can go together. */
    private static void noTwoThatBar() {
        Check.sentence(0, BEST);
        Works x = new Works();
        x.campaign(false, 10, 0);
        x.campaign(false, 25, 0);
        x.campaign(false, 14, 0);
        x.bar(0, 1, true);
        x.bar(2, 1, true);
        prices(x, 100, 75, 1);
        x.bar(1, 2, false);
        prices(x, 100, 61, 2);
        x.bar(0, 1, false);
        prices(x, 100, 51, 3);
        x.bar(0, 1, true);
        x.bar(0, 2, true);
        x.bar(1, 2, true);
        prices(x, 100, 75, 1);
        prices(x, 9, 0, 1);
    }

    private static void leastByThePriceThen() {
        Check.sentence(0, BEST);
        Works x = new Works();
        x.campaign(false, 20, 0);
        x.campaign(false, 30, 100);
        // The one with a LEAST first, whatever the other makes of the price.
        prices(x, 100, 50, 2);
        prices(x, 119, 69, 2);
        prices(x, 99, 79, 1);
        Works y = new Works();
        y.campaign(false, 20, 81);
        y.campaign(false, 30, 100);
        // 100 by 30 is 70, below 81; 100 by 20 is 80, below 100.
        prices(y, 100, 70, 1);
        // 111 by 30 is 81; 110 by 30 is 80.
        prices(y, 110, 80, 1);
        prices(y, 111, 61, 2);
        prices(y, 120, 70, 2);
    }

    private static void notByTheBiggestStep() {
        Check.sentence(0, BEST);
        Works x = new Works();
        x.campaign(false, 60, 100);
        x.campaign(true, 50, 100);
        x.campaign(false, 45, 100);
        // Half of it first is the biggest step, to 95, and the last one; 190 by 60 is 130, and half of that 65.
        prices(x, 190, 65, 2);
        prices(x, 198, 69, 2);
        // Half of 199, less 99, is 100: that goes on by 60.
        prices(x, 199, 40, 2);
    }

    /** By the first two 101 gets 91 and 86, or 96 and 87; 86 is below the LEAST of the third one, 87 is not. */
    private static void theHigherOfTwoPricesCanGoOn() {
        Check.sentence(0, BEST);
        Works x = new Works();
        x.campaign(true, 10, 95);
        x.campaign(false, 5, 90);
        prices(x, 101, 86, 2);
        x.campaign(false, 50, 87);
        prices(x, 101, 37, 3);
    }

    /**
     * By the first two, half and -10, twice h gets h - 10, or h - 5: only from the higher one the third goes on, to
     * h - 65; by the third behind the first alone it is h - 60, then below the LEAST of the second.
     */
    private static void theHigherOfTwoPricesCanGoOnAnywhere() {
        Check.sentence(0, BEST);
        for (int h = 65; h <= 500; h++) {
            Works x = new Works();
            x.campaign(true, 50, 0);
            x.campaign(false, 10, h);
            x.campaign(false, 60, h - 8);
            prices(x, 2 * h, h - 65, 3);
        }
    }

    private static void hundredthsOfThePriceThen() {
        Check.sentence(0, BEST);
        Works x = new Works();
        x.campaign(true, 50, 0);
        x.campaign(true, 40, 0);
        // 100, 50, 30; 99: 50, 30, or 60, 30; 3: 2, 2, or 2, 1.
        prices(x, 100, 30, 2);
        prices(x, 99, 30, 2);
        prices(x, 3, 1, 2);
        x.campaign(false, 10, 0);
        prices(x, 100, 20, 3);
        prices(x, 33, 0, 3);
        prices(x, 21, 0, 3);
        prices(x, 20, 0, 2);
        prices(x, 10, 0, 1);
    }

    // ---- promise 6: campaign

    private static void campaignIsAdded() {
        Check.sentence(6, "Adds a CAMPAIGN.");
        Works x = new Works();
        prices(x, 100, 100, 0);
        x.campaign(false, 7, 0);
        prices(x, 100, 93, 1);
        x.campaign(false, 7, 0);
        prices(x, 100, 86, 2);
    }

    private static void inHundredthsOrNot() {
        Check.sentence(6, "`isPercent`: whether VALUE is told in hundredths of the price");
        prices(with(true, 20, 0), 300, 240, 1);
        prices(with(false, 20, 0), 300, 280, 1);
    }

    private static void value() {
        Check.sentence(6, "`value`: 1 to 90 in hundredths, otherwise 1 to 200");
        Edges.range("value in hundredths", Works::new, (x, value) -> x.campaign(true, value, 0), 1, 90);
        Edges.range("value", Works::new, (x, value) -> x.campaign(false, value, 0), 1, 200);
        Edges.takes("value above 90", Works::new, (x, value) -> x.campaign(false, value, 0), 90, 91, 92, 100, 101);
        Edges.outOfRange("hundredths above 90", Works::new, (x, value) -> x.campaign(true, value, 0), 99, 100, 200);
    }

    private static void valueAtItsEnds() {
        Check.sentence(6, "`value`: 1 to 90 in hundredths, otherwise 1 to 200");
        prices(with(true, 1, 0), 500, 495, 1);
        prices(with(true, 90, 0), 500, 50, 1);
        prices(with(false, 1, 0), 500, 499, 1);
        prices(with(false, 200, 0), 500, 300, 1);
    }

    private static void leastRange() {
        Check.sentence(6, "`least`: 0 to 500");
        Edges.range("least in hundredths", Works::new, (x, least) -> x.campaign(true, 90, least), 0, 500);
        Edges.range("least", Works::new, (x, least) -> x.campaign(false, 200, least), 0, 500);
    }

    private static void campaignNumber() {
        Check.sentence(6, "Returns its number.");
        Works x = new Works();
        Check.due("the first", x.campaign(false, 1, 0), 0);
        Check.outOfRange("a refused one", x, () -> x.campaign(false, 201, 0));
        Check.due("behind a refused one", x.campaign(true, 1, 0), 1);
        x.bar(0, 1, true);
        Check.due("whatever BARS there are", x.campaign(true, 1, 0), 2);
    }

    private static void campaignOutOfRange() {
        Check.sentence(6, "Throws `IllegalArgumentException` if value or least is out of range");
        Works x = with(true, 30, 10);
        Check.outOfRange("value alone", x, () -> x.campaign(true, 91, 0));
        Check.outOfRange("value alone, not in hundredths", x, () -> x.campaign(false, 0, 0));
        Check.outOfRange("least alone", x, () -> x.campaign(true, 90, 501));
        Check.outOfRange("least alone, not in hundredths", x, () -> x.campaign(false, 200, -1));
        Check.outOfRange("both", x, () -> x.campaign(false, 201, 501));
    }

    private static void campaignOfTheSeventh() {
        Check.sentence(6, "Throws `IllegalStateException` if there are 6");
        Works x = new Works();
        for (int i = 0; i < 5; i++) {
            x.campaign(true, 10, 0);
        }
        Check.due("with 5", x.campaign(false, 1, 0), 5);
        Check.notNow("with 6", x, () -> x.campaign(false, 1, 0));
        x.bar(0, 1, true);
        Check.notNow("with 6, of which two BAR each other", x, () -> x.campaign(true, 1, 0));
    }

    // ---- promise 7: bar

    private static void barOrNotAnyMore() {
        Check.sentence(7, "Lets two CAMPAIGNS BAR each other, or not any more.");
        Works x = six();
        x.bar(5, 4, true);
        prices(x, 100, 100 - 63 + 16, 5);
        x.bar(5, 4, true);
        prices(x, 100, 100 - 63 + 16, 5);
        x.bar(4, 5, false);
        prices(x, 100, 37, 6);
        x.bar(4, 5, false);
        prices(x, 100, 37, 6);
    }

    private static void barBefore() {
        Check.sentence(7, "Returns whether they did.");
        Works x = six();
        Check.due("at first", x.bar(0, 5, false), false);
        Check.due("still not", x.bar(5, 0, true), false);
        Check.due("then", x.bar(0, 5, true), true);
        Check.due("still", x.bar(5, 0, false), true);
        Check.due("not any more", x.bar(0, 5, true), false);
        Check.due("of others", x.bar(0, 4, true), false);
        Check.due("of others", x.bar(1, 5, true), false);
    }

    private static void barWithoutCampaign() {
        Check.sentence(7, "Throws `IndexOutOfBoundsException` if there is no such CAMPAIGN, of either");
        Edges.places("campaign", EdgesOfCampaignsTest::three, (x, one) -> x.bar(one, 1, true), 3);
        Edges.places("other", EdgesOfCampaignsTest::three, (x, other) -> x.bar(1, other, true), 3);
        Edges.noSuch("the seventh", EdgesOfCampaignsTest::six, (x, one) -> x.bar(one, 5, true), 6, 7);
        Edges.noSuch("the seventh, as the other", EdgesOfCampaignsTest::six, (x, other) -> x.bar(5, other, false), 6, 7);
        Works none = new Works();
        Check.noSuch("of none", none, () -> none.bar(0, 1, true));
        Works one = with(true, 5, 0);
        Check.noSuch("of one alone", one, () -> one.bar(0, 1, true));
        Check.noSuch("of one alone, the other way round", one, () -> one.bar(1, 0, true));
    }

    private static Works three() {
        Works x = new Works();
        x.campaign(true, 10, 0);
        x.campaign(true, 20, 0);
        x.campaign(false, 30, 0);
        x.bar(0, 2, true);
        return x;
    }

    private static void barOfTheSame() {
        Check.sentence(7, "Throws `IllegalArgumentException` if both are the same");
        Works x = six();
        for (int campaign = 0; campaign < 6; campaign++) {
            int same = campaign;
            Check.outOfRange("the same, to BAR", x, () -> x.bar(same, same, true));
            Check.outOfRange("the same, not any more", x, () -> x.bar(same, same, false));
        }
        prices(x, 63, 0, 6);
    }

    // ---- promises 8 to 10: best, bestAnew, fewest

    private static void best() {
        Check.sentence(8, "Returns the BEST price for a price.");
        Works x = new Works();
        x.campaign(true, 25, 40);
        x.campaign(false, 15, 20);
        Check.due("best(100): 75, then 60", x.best(100), 60);
        Check.due("best(40): 30, then 15", x.best(40), 15);
        Check.due("best(39): 24", x.best(39), 24);
        Check.due("best(20): 5", x.best(20), 5);
        Check.due("best(19)", x.best(19), 19);
    }

    private static void bestRange() {
        Check.sentence(8, "`price`: 1 to 1000");
        Edges.range("price", EdgesOfCampaignsTest::six, (x, price) -> x.best(price), 1, 1000);
        Check.due("best(1) without CAMPAIGNS", new Works().best(1), 1);
        Check.due("best(1000) without CAMPAIGNS", new Works().best(1000), 1000);
    }

    private static void bestIsNotBelowZero() {
        Check.sentence(8, "Returns 0 or more.");
        Works x = new Works();
        for (int i = 0; i < 6; i++) {
            x.campaign(false, 200, 0);
        }
        Check.due("best(1000)", x.best(1000), 0);
        Check.due("best(1)", x.best(1), 0);
        Check.due("best(199)", x.best(199), 0);
    }

    private static void bestOutOfRange() {
        Check.sentence(8, "Throws `IllegalArgumentException` if price is out of range");
        Works x = three();
        Check.outOfRange("0", x, () -> x.best(0));
        Check.outOfRange("1001", x, () -> x.best(1001));
    }

    /** Each set of six CAMPAIGNS that BAR each other in pairs, and prices at their ends. */
    private static void bestAnew() {
        Check.sentence(9, "Returns the same, found by all sets of CAMPAIGNS, and the prices that can be got by each.");
        Works x = new Works();
        int[] values = {10, 45, 33, 7, 90, 12};
        for (int i = 0; i < 6; i++) {
            x.campaign(i % 2 == 0, values[i], 50 * i);
        }
        for (int bars = 0; bars < 3; bars++) {
            for (int price : new int[] {1, 2, 31, 32, 33, 63, 64, 65, 99, 100, 249, 250, 251, 511, 512, 991, 992, 999, 1000}) {
                Check.due("bestAnew(" + price + ") with " + bars + " BARS", x.bestAnew(price), x.best(price));
            }
            x.bar(bars, bars + 2, true);
        }
        Check.due("bestAnew(1) without CAMPAIGNS", new Works().bestAnew(1), 1);
        Check.due("bestAnew(1000) without CAMPAIGNS", new Works().bestAnew(1000), 1000);
    }

    private static void bestAnewOutOfRange() {
        Check.sentence(9, "Throws `IllegalArgumentException` if price is out of range");
        Edges.range("price", EdgesOfCampaignsTest::six, (x, price) -> x.bestAnew(price), 1, 1000);
        Works x = three();
        Check.outOfRange("0", x, () -> x.bestAnew(0));
        Check.outOfRange("1001", x, () -> x.bestAnew(1001));
    }

    private static final String FEWEST =
        "Returns the fewest CAMPAIGNS by which the BEST price can be got; 0 if it is the price itself.";

    private static void fewest() {
        Check.sentence(10, FEWEST);
        Works x = new Works();
        x.campaign(false, 10, 0);
        x.campaign(false, 10, 0);
        x.campaign(false, 20, 0);
        x.bar(2, 0, true);
        // 20 by two or by one; with 1 and 2 it is 30.
        Check.due("30 by two", x.fewest(100), 2);
        x.bar(2, 1, true);
        Check.due("20 by one, not by two", x.fewest(100), 1);
        Works six = six();
        Check.due("all six", six.fewest(63), 6);
        Check.due("five", six.fewest(62), 5);
        Check.due("one", six.fewest(32), 1);
        Check.due("two", six.fewest(33), 2);
        Works nothing = new Works();
        nothing.campaign(true, 1, 0);
        nothing.campaign(false, 5, 0);
        Check.due("one that takes nothing off does not count", nothing.fewest(99), 1);
    }

    private static void fewestOfNone() {
        Check.sentence(10, FEWEST);
        Check.due("without CAMPAIGNS", new Works().fewest(1000), 0);
        Check.due("below LEAST", with(true, 90, 500).fewest(499), 0);
        Check.due("at LEAST", with(true, 90, 500).fewest(500), 1);
        Check.due("by hundredths that are nothing", with(true, 1, 0).fewest(99), 0);
        Check.due("by hundredths that are one", with(true, 1, 0).fewest(100), 1);
    }

    private static void fewestRange() {
        Check.sentence(10, "`price`: 1 to 1000");
        Edges.range("price", EdgesOfCampaignsTest::six, (x, price) -> x.fewest(price), 1, 1000);
        Check.due("fewest(1) of six", six().fewest(1), 1);
        Check.due("fewest(1000) of six", six().fewest(1000), 6);
    }

    private static void fewestOutOfRange() {
        Check.sentence(10, "Throws `IllegalArgumentException` if price is out of range");
        Works x = three();
        Check.outOfRange("0", x, () -> x.fewest(0));
        Check.outOfRange("1001", x, () -> x.fewest(1001));
    }
}
