/** Promises 6 to 10: campaign, bar, best, bestAnew, fewest. */
final class CampaignsTest {
    private CampaignsTest() {
    }

    public static void main(String[] args) {
        campaign();
        campaignRefuses();
        bar();
        barRefuses();
        single();
        ordersAndLeast();
        aHigherPriceOnTheWay();
        theHigherOfTwoPricesOfASet();
        bars();
        six();
        pricesRefused();
        Check.end();
    }

    /** All three questions of a price, each behind one of another price, which must leave no trace. */
    private static void prices(Works x, int price, int best, int fewest) {
        int another = price == 1000 ? 2 : price + 1;
        x.fewest(another);
        Check.due("best(" + price + ")", x.best(price), best);
        x.best(another);
        Check.due("bestAnew(" + price + ")", x.bestAnew(price), best);
        x.bestAnew(another);
        Check.due("fewest(" + price + ")", x.fewest(price), fewest);
    }

    private static void campaign() {
        Works x = new Works();
        Check.due("campaign of 1 hundredth", x.campaign(true, 1, 0), 0);
        Check.due("campaign of 90 hundredths", x.campaign(true, 90, 500), 1);
        Check.due("campaign of 1", x.campaign(false, 1, 500), 2);
        Check.due("campaign of 200", x.campaign(false, 200, 0), 3);
        Check.due("campaign of 91", x.campaign(false, 91, 1), 4);
        Check.due("the sixth", x.campaign(false, 2, 1), 5);
        Check.notNow("a seventh", x, () -> x.campaign(false, 2, 1));
        Check.outOfRange("a seventh with VALUE 0", x, () -> x.campaign(false, 0, 1));
    }

    private static void campaignRefuses() {
        Works x = new Works();
        Check.outOfRange("0 hundredths", x, () -> x.campaign(true, 0, 0));
        Check.outOfRange("91 hundredths", x, () -> x.campaign(true, 91, 0));
        Check.outOfRange("VALUE 0", x, () -> x.campaign(false, 0, 0));
        Check.outOfRange("VALUE 201", x, () -> x.campaign(false, 201, 0));
        Check.outOfRange("VALUE -1", x, () -> x.campaign(false, -1, 0));
        Check.outOfRange("LEAST -1", x, () -> x.campaign(true, 50, -1));
        Check.outOfRange("LEAST 501", x, () -> x.campaign(false, 50, 501));
        Check.due("none of these was added", x.campaign(true, 50, 0), 0);
    }

    private static void bar() {
        Works x = new Works();
        for (int i = 0; i < 6; i++) {
            x.campaign(false, 1 + i, 0);
        }
        Check.due("bar(0, 5) not yet", x.bar(0, 5, true), false);
        Check.due("bar(5, 0) is the same", x.bar(5, 0, true), true);
        Check.due("bar(0, 5) to end it", x.bar(0, 5, false), true);
        Check.due("bar(5, 0) ended", x.bar(5, 0, false), false);
        Check.due("bar(4, 1)", x.bar(4, 1, true), false);
        Check.due("bar(1, 4) to end it", x.bar(1, 4, false), true);
        Check.due("bar(4, 1) ended", x.bar(4, 1, false), false);
        x.bar(2, 3, true);
        Check.due("others are not barred", x.bar(2, 4, false), false);
        Check.due("ending another one ends not this one", x.bar(2, 3, false), true);
    }

    private static void barRefuses() {
        Works x = new Works();
        Check.noSuch("bar without campaigns", x, () -> x.bar(0, 1, true));
        x.campaign(false, 10, 0);
        x.campaign(true, 10, 0);
        Check.noSuch("bar(2, 0)", x, () -> x.bar(2, 0, true));
        Check.noSuch("bar(0, 2)", x, () -> x.bar(0, 2, true));
        Check.noSuch("bar(-1, 0)", x, () -> x.bar(-1, 0, true));
        Check.noSuch("bar(0, -1)", x, () -> x.bar(0, -1, true));
        Check.noSuch("bar(2, 2), where there is none and both are the same", x, () -> x.bar(2, 2, true));
        Check.outOfRange("bar(0, 0)", x, () -> x.bar(0, 0, true));
        Check.outOfRange("bar(1, 1)", x, () -> x.bar(1, 1, false));
        prices(x, 100, 80, 2);
    }

    private static void single() {
        Works none = new Works();
        prices(none, 1, 1, 0);
        prices(none, 1000, 1000, 0);
        Works x = new Works();
        x.campaign(true, 33, 10);
        prices(x, 9, 9, 0);
        prices(x, 10, 7, 1);
        prices(x, 1000, 670, 1);
        Works small = new Works();
        small.campaign(true, 1, 0);
        prices(small, 99, 99, 0);
        prices(small, 100, 99, 1);
        Works fixed = new Works();
        fixed.campaign(false, 200, 100);
        prices(fixed, 99, 99, 0);
        prices(fixed, 100, 0, 1);
        prices(fixed, 200, 0, 1);
        prices(fixed, 201, 1, 1);
    }

    private static void ordersAndLeast() {
        Works x = new Works();
        x.campaign(false, 50, 0);
        x.campaign(true, 50, 0);
        // The hundredths first: 100 to 50 to 0; the other way round it would be 25.
        prices(x, 100, 0, 2);
        prices(x, 50, 0, 1);
        prices(x, 120, 10, 2);
        Works y = new Works();
        y.campaign(false, 50, 100);
        y.campaign(true, 50, 100);
        // Either one brings 100 below the LEAST of the other.
        prices(y, 100, 50, 1);
        // 150: by 50 to 100, then half of it.
        prices(y, 150, 50, 2);
        prices(y, 200, 50, 2);
    }

    /** The one that takes most off first is not always on the best way. */
    private static void aHigherPriceOnTheWay() {
        Works x = new Works();
        x.campaign(false, 60, 0);
        x.campaign(true, 30, 100);
        x.campaign(false, 1, 70);
        prices(x, 100, 9, 3);
        prices(x, 101, 10, 3);
        prices(x, 99, 38, 2);
        Works y = new Works();
        y.campaign(true, 10, 0);
        y.campaign(true, 15, 0);
        // 15: 15 - 1 = 14, 14 - 2 = 12; 15 - 2 = 13, 13 - 1 = 12.
        prices(y, 15, 12, 2);
        // 7: 7 - 0 = 7, 7 - 1 = 6: the first one does nothing.
        prices(y, 7, 6, 1);
        // 20: 20 - 2 = 18, 18 - 2 = 16; 20 - 3 = 17, 17 - 1 = 16.
        prices(y, 20, 16, 2);
    }

    /** 101 to 91 to 86 ends there; 101 to 96 to 87 can go on to 37. */
    private static void theHigherOfTwoPricesOfASet() {
        Works x = new Works();
        x.campaign(true, 10, 95);
        x.campaign(false, 5, 90);
        prices(x, 101, 86, 2);
        x.campaign(false, 50, 87);
        prices(x, 101, 37, 3);
    }

    private static void bars() {
        Works x = new Works();
        x.campaign(false, 30, 0);
        x.campaign(false, 40, 0);
        x.campaign(false, 25, 0);
        prices(x, 100, 5, 3);
        x.bar(0, 1, true);
        prices(x, 100, 35, 2);
        x.bar(1, 2, true);
        prices(x, 100, 45, 2);
        x.bar(2, 0, true);
        prices(x, 100, 60, 1);
        x.bar(0, 1, false);
        prices(x, 100, 30, 2);
    }

    private static void six() {
        Works x = new Works();
        for (int i = 0; i < 6; i++) {
            x.campaign(true, 90, i == 5 ? 500 : 0);
        }
        // 1000, 100, 10, 1, and there it stays; the one from 500 on only at first.
        prices(x, 1000, 1, 3);
        prices(x, 9, 1, 1);
        Works y = new Works();
        for (int i = 0; i < 6; i++) {
            y.campaign(false, 100 + i, 0);
        }
        prices(y, 1000, 1000 - 615, 6);
        prices(y, 615, 0, 6);
        prices(y, 515, 0, 5);
        prices(y, 516, 0, 6);
    }

    private static void pricesRefused() {
        Works x = new Works();
        x.campaign(false, 5, 0);
        for (int price : new int[] {0, -1, 1001, Integer.MIN_VALUE, Integer.MAX_VALUE}) {
            Check.outOfRange("best(" + price + ")", x, () -> x.best(price));
            Check.outOfRange("bestAnew(" + price + ")", x, () -> x.bestAnew(price));
            Check.outOfRange("fewest(" + price + ")", x, () -> x.fewest(price));
        }
    }
}
