/** Promises 11 to 14: pay, whyNot, giveBack, convert. */
final class PaymentsTest {
    private PaymentsTest() {
    }

    public static void main(String[] args) {
        payInOrder();
        payTheBestPrice();
        payNothing();
        payRefuses();
        whyNot();
        whyNotRefuses();
        giveBackFromTheLast();
        giveBackByOrderNotByNumber();
        giveBackToExpired();
        giveBackToALotThatAFeeEmptied();
        giveBackSingleCoins();
        giveBackOfFrozen();
        giveBackAfterJoin();
        giveBackRefuses();
        giveBackWithSixtyLots();
        convert();
        convertBelowZero();
        convertRefuses();
        Check.end();
    }

    private static void payInOrder() {
        Works x = new Works();
        x.law(0, 6, 0, 0);
        x.law(1, 0, 0, 0);
        x.sell(0, 0, 10);
        x.load(0, 10, true);
        x.load(0, 10, false);
        Check.due("pay", x.pay(0, 10), 0);
        Check.due("GRANTED is ahead with the same END", x.ofLot(1, 2), 0);
        Check.due("BOUGHT is behind it", x.ofLot(0, 2), 10);
        Check.due("pay more", x.pay(0, 15), 1);
        Check.due("the lower number first", x.ofLot(0, 2), 0);
        Check.due("the higher number then", x.ofLot(2, 2), 5);
        Check.due("took", x.ofPayment(1, 1), 15);
        Check.due("NET", x.ofPayment(1, 2), 15);
        Check.due("taken of the first payment", x.taken(0, 1), 10);
        Check.due("taken from lot 0", x.taken(1, 0), 10);
        Check.due("taken from lot 1 by the second", x.taken(1, 1), 0);
        Check.due("taken from lot 2", x.taken(1, 2), 5);
        Check.due("BALANCE", x.ofCard(0, 1), 5);
        Check.due("pay all that is there", x.pay(0, 5), 2);
        Check.due("BALANCE 0", x.ofCard(0, 1), 0);
        x.sell(1, 1, 30);
        Steps.pass(x, 4);
        x.load(1, 30, true);
        Check.due("pay with a lot without END", x.pay(1, 31), 3);
        Check.due("one with an END is ahead", x.ofLot(4, 2), 0);
        Check.due("one without END is last", x.ofLot(3, 2), 29);
        Check.due("USE is paid in", x.ofCard(1, 2), 4);
        Check.due("USE of another card", x.ofCard(0, 2), 0);
        Check.due("MONTH of the payment", x.ofPayment(3, 3), 4);
        Check.due("its card", x.ofPayment(3, 0), 1);
    }

    private static void payTheBestPrice() {
        Works x = new Works();
        x.sell(0, 0, 50);
        x.campaign(true, 50, 100);
        Check.notNow("99 is more than there is", x, () -> x.pay(0, 99));
        Check.due("100 costs 50", x.pay(0, 100), 0);
        Check.due("took", x.ofPayment(0, 1), 50);
        Check.due("BALANCE", x.ofCard(0, 1), 0);
        Check.due("NET of the chain", x.ofChain(0, 3), 50);
        Check.due("no INCOME by a payment", x.ofChain(0, 4), 0);
    }

    private static void payNothing() {
        Works x = new Works();
        x.sell(0, 0, 1);
        x.pay(0, 1);
        x.campaign(false, 200, 0);
        Steps.pass(x, 3);
        Check.due("a BEST price of 0 can be paid without coins", x.pay(0, 200), 1);
        Check.due("took", x.ofPayment(1, 1), 0);
        Check.due("NET", x.ofPayment(1, 2), 0);
        Check.due("USE", x.ofCard(0, 2), 3);
        Check.outOfRange("nothing can be given back of it", x, () -> x.giveBack(1, 1));
        Check.notNow("201 costs 1", x, () -> x.pay(0, 201));
    }

    private static void payRefuses() {
        Works x = new Works();
        Check.noSuch("pay without cards", x, () -> x.pay(0, 1));
        x.sell(0, 0, 499);
        x.sell(0, 0, 500);
        x.sell(1, 0, 500);
        x.sell(0, 0, 500);
        Check.noSuch("pay(-1)", x, () -> x.pay(-1, 0));
        Check.noSuch("pay(4)", x, () -> x.pay(4, 1));
        Check.outOfRange("pay 0", x, () -> x.pay(0, 0));
        Check.outOfRange("pay 1001", x, () -> x.pay(0, 1001));
        x.join(0, 1);
        Steps.freeze(x, 3);
        x.die(1, 0);
        Check.notNow("pay with a closed card", x, () -> x.pay(1, 1));
        Check.notNow("pay with a dead chain's card", x, () -> x.pay(2, 1));
        Check.notNow("pay with a frozen card", x, () -> x.pay(3, 1));
        Check.notNow("pay more than there is", x, () -> x.pay(0, 1000));
    }

    private static void whyNot() {
        Works x = new Works();
        x.sell(0, 0, 100);
        x.sell(0, 0, 100);
        x.sell(0, 0, 100);
        Check.due("nothing is against it", x.whyNot(0, 100), 0);
        Check.due("the BEST price is above the BALANCE", x.whyNot(0, 101), 4);
        x.join(0, 1);
        Check.due("closed", x.whyNot(1, 1), 1);
        Steps.freeze(x, 2);
        Check.due("frozen", x.whyNot(2, 1), 2);
        Check.due("frozen, and too dear", x.whyNot(2, 101), 2);
        for (int i = 0; i < 39; i++) {
            x.pay(0, 1);
        }
        Check.due("39 payments", x.whyNot(0, 1), 0);
        x.pay(0, 1);
        Check.due("40 payments", x.whyNot(0, 1), 5);
        Check.due("40 payments, and too dear", x.whyNot(0, 161), 4);
        Check.due("40 payments, and not too dear", x.whyNot(0, 160), 5);
        Check.notNow("pay a 41st time", x, () -> x.pay(0, 1));
        x.die(0, 0);
        Check.due("dead", x.whyNot(0, 1), 3);
        Check.due("dead and frozen", x.whyNot(2, 1), 2);
        Check.due("dead and closed", x.whyNot(1, 1), 1);
    }

    private static void whyNotRefuses() {
        Works x = new Works();
        x.sell(0, 0, 100);
        Check.noSuch("whyNot(-1)", x, () -> x.whyNot(-1, 0));
        Check.noSuch("whyNot(1)", x, () -> x.whyNot(1, 1));
        Check.outOfRange("whyNot for 0", x, () -> x.whyNot(0, 0));
        Check.outOfRange("whyNot for 1001", x, () -> x.whyNot(0, 1001));
        x.free(0);
        Steps.freeze(x, 0);
        Check.outOfRange("whyNot of a frozen card for 1001", x, () -> x.whyNot(0, 1001));
    }

    private static void giveBackFromTheLast() {
        Works x = new Works();
        x.sell(0, 0, 10);
        x.load(0, 10, true);
        x.load(0, 10, false);
        x.pay(0, 27);
        Check.due("give 1 back", x.giveBack(0, 1), 26);
        Check.due("to the lot taken from last", x.ofLot(2, 2), 4);
        Check.due("taken then", x.taken(0, 2), 6);
        Check.due("give 10 more back", x.giveBack(0, 10), 16);
        Check.due("at most what was taken from it", x.ofLot(2, 2), 10);
        Check.due("and the rest to the one ahead", x.ofLot(0, 2), 4);
        Check.due("not to the first", x.ofLot(1, 2), 0);
        Check.due("give all back", x.giveBack(0, 16), 0);
        Check.due("BALANCE", x.ofCard(0, 1), 30);
        Check.due("took stays", x.ofPayment(0, 1), 27);
        Check.due("NET", x.ofPayment(0, 2), 0);
        Check.due("NET of the chain", x.ofChain(0, 3), 0);
        Check.due("no new lot: received", x.ofChain(0, 0), 20);
        Check.noSuch("no new lot", x, () -> x.ofLot(3, 0));
        Steps.pass(x, 1);
        x.pay(0, 5);
        Check.due("what another payment took stays its own", x.taken(1, 1), 5);
        Steps.pass(x, 1);
        x.giveBack(1, 2);
        Check.due("giving back is no USE", x.ofCard(0, 2), 1);
        Check.outOfRange("more than the NET", x, () -> x.giveBack(1, 4));
    }

    /** The last lot of the ORDER is here the one with the lowest number. */
    private static void giveBackByOrderNotByNumber() {
        Works x = new Works();
        x.law(0, 0, 0, 0);
        x.sell(0, 0, 10);
        x.load(0, 10, true);
        Steps.pass(x, 1);
        x.load(0, 10, true);
        x.pay(0, 25);
        x.giveBack(0, 7);
        Check.due("first to the lot without END", x.ofLot(0, 2), 10);
        Check.due("then to the later gift", x.ofLot(2, 2), 2);
        Check.due("not to the earlier one", x.ofLot(1, 2), 0);
    }

    private static void giveBackToExpired() {
        Works x = new Works();
        x.law(0, 8, 0, 0);
        x.sell(0, 0, 10);
        x.load(0, 10, true);
        Steps.pass(x, 1);
        x.load(0, 10, true);
        x.pay(0, 30);
        Steps.pass(x, 5);
        Check.due("month", x.month(), 6);
        Check.due("ORIGIN unlike a new lot: 10 to BOUGHT, 4 to the later gift", x.giveBack(0, 14), 16);
        Check.due("a lot that expires later takes it", x.ofLot(2, 2), 4);
        Check.due("BOUGHT takes it", x.ofLot(0, 2), 10);
        Check.noSuch("no new lot yet", x, () -> x.ofLot(3, 0));
        Check.due("6 to the later gift, 5 for the earlier one, that has expired", x.giveBack(0, 11), 5);
        Check.due("its LEFT", x.ofLot(1, 2), 0);
        Check.due("taken goes down, too", x.taken(0, 1), 5);
        Check.due("a new lot's card", x.ofLot(3, 0), 0);
        Check.due("a new lot's ORIGIN", x.ofLot(3, 1), Voucherworks.RETURNED);
        Check.due("a new lot's LEFT", x.ofLot(3, 2), 5);
        Check.due("a new lot's END", x.ofLot(3, 3), 9);
        Check.due("a new lot's BEGIN", x.ofLot(3, 4), 6);
        Check.due("taken from the new lot", x.taken(0, 3), 0);
        Check.due("received stays", x.ofChain(0, 0), 10);
        Check.due("came stays", x.ofChain(0, 1), 20);
        Steps.pass(x, 2);
        x.giveBack(0, 5);
        Check.due("another new lot", x.ofLot(4, 2), 5);
        Check.due("its END", x.ofLot(4, 3), 11);
        Check.noSuch("and none beyond", x, () -> x.ofLot(5, 0));
        x.pay(0, 10);
        Steps.pass(x, 3);
        x.giveBack(1, 10);
        Check.due("two expired RETURNED lots make one new lot", x.ofLot(5, 2), 10);
        Check.due("which is RETURNED again", x.ofLot(5, 1), Voucherworks.RETURNED);
        Check.due("accounts", x.leftAnew(0), x.ofChain(0, 2));
    }

    private static void giveBackToALotThatAFeeEmptied() {
        Works x = new Works();
        x.law(0, 24, 9, 0);
        x.sell(0, 0, 10);
        x.pay(0, 5);
        Steps.pass(x, 12);
        Check.due("empty by the FEE", x.ofLot(0, 2), 0);
        x.giveBack(0, 5);
        Check.due("not expired, so it takes them", x.ofLot(0, 2), 5);
        Check.noSuch("no new lot", x, () -> x.ofLot(1, 0));
        Check.due("giving back is no USE: the next fee comes", x.pass(), 13);
        Check.due("the fee", x.ofChain(0, 4), 10);
    }

    private static void giveBackSingleCoins() {
        Works x = new Works();
        x.law(0, 6, 0, 0);
        x.sell(0, 0, 10);
        x.pay(0, 3);
        x.giveBack(0, 1);
        Check.due("one to the lot", x.ofLot(0, 2), 8);
        Steps.pass(x, 6);
        x.giveBack(0, 1);
        Check.due("one to a new lot", x.ofLot(1, 2), 1);
        Check.due("the last one of the payment", x.giveBack(0, 1), 0);
        Check.due("to another new lot", x.ofLot(2, 2), 1);
        Check.due("nothing is taken any more", x.taken(0, 0), 0);
        Check.due("accounts", x.leftAnew(0), 2);
    }

    private static void giveBackOfFrozen() {
        Works x = new Works();
        x.sell(0, 0, 10);
        x.pay(0, 5);
        Steps.freeze(x, 0);
        Check.due("of a frozen card", x.giveBack(0, 3), 2);
        Check.due("BALANCE", x.ofCard(0, 1), 8);
    }

    private static void giveBackAfterJoin() {
        Works x = new Works();
        x.law(0, 6, 0, 0);
        x.sell(0, 0, 10);
        x.sell(0, 0, 20);
        x.pay(1, 15);
        x.join(0, 1);
        x.giveBack(0, 5);
        Check.due("to the lot, on the one card now", x.ofLot(1, 2), 10);
        Check.due("BALANCE of the one", x.ofCard(0, 1), 20);
        Steps.pass(x, 6);
        x.giveBack(0, 5);
        Check.due("the new lot is on the payment's card now", x.ofLot(2, 0), 0);
        Check.due("BALANCE of the closed one", x.ofCard(1, 1), 0);
    }

    private static void giveBackRefuses() {
        Works x = new Works();
        x.sell(0, 0, 100);
        Check.noSuch("giveBack without payments", x, () -> x.giveBack(0, 0));
        x.pay(0, 20);
        Check.noSuch("giveBack(-1)", x, () -> x.giveBack(-1, 1));
        Check.noSuch("giveBack(1)", x, () -> x.giveBack(1, 1));
        Check.outOfRange("giveBack of 0", x, () -> x.giveBack(0, 0));
        Check.outOfRange("giveBack of -1", x, () -> x.giveBack(0, -1));
        Check.outOfRange("giveBack of 21", x, () -> x.giveBack(0, 21));
        x.giveBack(0, 5);
        Check.outOfRange("giveBack of 16 of 15", x, () -> x.giveBack(0, 16));
        x.die(0, 500);
        Check.notNow("giveBack of a dead chain", x, () -> x.giveBack(0, 15));
        Check.outOfRange("giveBack of 16 of a dead chain", x, () -> x.giveBack(0, 16));
    }

    private static void giveBackWithSixtyLots() {
        Works x = new Works();
        x.law(0, 6, 0, 0);
        x.sell(0, 0, 10);
        Steps.pass(x, 5);
        x.load(0, 10, false);
        x.pay(0, 20);
        Steps.pass(x, 1);
        Steps.fillLots(x, 0);
        Check.notNow("one of 11 would go into a 61st lot", x, () -> x.giveBack(0, 11));
        Check.due("10 need none", x.giveBack(0, 10), 10);
        Check.notNow("the eleventh needs one", x, () -> x.giveBack(0, 1));
        Check.due("LEFT", x.ofLot(1, 2), 10);
    }

    private static void convert() {
        Works x = new Works();
        x.sell(2, 0, 500);
        x.pay(0, 59);
        x.pay(0, 101);
        Steps.pass(x, 1);
        Check.notNow("PENDING marks are not converted", x, () -> x.convert(0, 5));
        x.pass();
        Check.due("15 are READY", x.ofCard(0, 5), 15);
        Check.notNow("20 are not there", x, () -> x.convert(0, 20));
        Check.due("convert 10", x.convert(0, 10), 2);
        Check.due("MARKS then", x.ofCard(0, 5), 5);
        Check.due("the lot's card", x.ofLot(1, 0), 0);
        Check.due("the lot's ORIGIN", x.ofLot(1, 1), Voucherworks.CONVERTED);
        Check.due("the lot's LEFT", x.ofLot(1, 2), 2);
        Check.due("the lot's END", x.ofLot(1, 3), 14);
        Check.due("the lot's BEGIN", x.ofLot(1, 4), 2);
        Check.due("USE", x.ofCard(0, 2), 2);
        Check.due("came", x.ofChain(2, 1), 2);
        Check.due("received", x.ofChain(2, 0), 500);
        Check.due("convert the rest", x.convert(0, 5), 1);
        Check.notNow("none are left", x, () -> x.convert(0, 5));
    }

    private static void convertBelowZero() {
        Works x = new Works();
        x.sell(0, 0, 500);
        x.pay(0, 100);
        Steps.pass(x, 2);
        x.convert(0, 10);
        x.giveBack(0, 1);
        Check.due("MARKS below 0", x.ofCard(0, 5), -1);
        x.pay(0, 60);
        Steps.pass(x, 2);
        Check.due("6 more, less one", x.ofCard(0, 5), 5);
        Check.due("convert", x.convert(0, 5), 1);
    }

    private static void convertRefuses() {
        Works x = new Works();
        Check.noSuch("convert without cards", x, () -> x.convert(0, 5));
        for (int i = 0; i < 4; i++) {
            x.sell(i == 3 ? 1 : 0, 0, 500);
            x.pay(i, 200);
        }
        Steps.pass(x, 2);
        Check.noSuch("convert(-1)", x, () -> x.convert(-1, 5));
        Check.noSuch("convert(4)", x, () -> x.convert(4, 6));
        for (int marks : new int[] {0, -5, 1, 4, 6, 9, 501, 505, Integer.MIN_VALUE, Integer.MAX_VALUE}) {
            Check.outOfRange("convert of " + marks, x, () -> x.convert(0, marks));
        }
        Check.notNow("500 is in the range, but not there", x, () -> x.convert(0, 500));
        x.join(0, 1);
        Check.notNow("convert for a closed card", x, () -> x.convert(1, 5));
        Steps.freeze(x, 2);
        Check.notNow("convert for a frozen card", x, () -> x.convert(2, 5));
        x.die(1, 0);
        Check.notNow("convert for a dead chain's card", x, () -> x.convert(3, 5));
        Steps.fillLots(x, 0);
        Check.notNow("convert with a 61st lot", x, () -> x.convert(0, 5));
        x.free(2);
        Check.notNow("convert with a 61st lot, for a freed card", x, () -> x.convert(2, 5));
        Check.due("its marks are there", x.ofCard(2, 5), 20);
    }
}
