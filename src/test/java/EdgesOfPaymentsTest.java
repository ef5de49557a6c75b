/** The ends of what the document says of PAYMENTS, of giving back and of MARKS, and in promises 11 to 14. */
final class EdgesOfPaymentsTest {
    private EdgesOfPaymentsTest() {
    }

    public static void main(String[] args) {
        takesTheBestPrice();
        takesAllOfOneAheadOfTheNext();
        numbers();
        keepsWhatItTook();
        net();
        backBeginsWithTheLast();
        backByTheOrderNotByNumber();
        backAtMostWhatItTook();
        backOfTwoPayments();
        expiredTogether();
        expiredAndNot();
        newLotIsOnTheCardOfThePayment();
        aTenthOfTheNet();
        pendingAndReady();
        pendingAtTheEndOfMonths();
        marksLessConverted();
        marksBelowZero();
        fiveForACoin();
        payNothing();
        payRange();
        payNumber();
        payWithoutCard();
        payOutOfRange();
        payForEachReason();
        firstReason();
        aboveTheBalance();
        fortyPayments();
        whyNotRange();
        whyNotWithoutCard();
        whyNotOutOfRange();
        giveBackFrozenOrNot();
        giveBackRange();
        giveBackAnswersTheNet();
        giveBackWithoutPayment();
        giveBackOutOfRange();
        giveBackOfTheDead();
        giveBackWithSixtyLots();
        giveBackWithSixtyLotsAndNoNewOne();
        convertMarksOfACard();
        convertRange();
        convertAnswersTheCoins();
        convertWithoutCard();
        convertOutOfRange();
        convertOfOneNotOpen();
        convertOfTheDead();
        convertOfTooFew();
        convertWithSixtyLots();
        Check.end();
    }

    /** One CARD of chain 0 without END of its LOT, and without FEES. */
    private static Works card(int coins) {
        Works x = new Works();
        x.law(0, 0, 0, 0);
        x.sell(0, 0, coins);
        return x;
    }

    private static void leftIs(Works x, int... left) {
        for (int lot = 0; lot < left.length; lot++) {
            Check.due("LEFT of lot " + lot, x.ofLot(lot, 2), left[lot]);
        }
        Check.noSuch("a lot beyond", x, () -> x.ofLot(left.length, 2));
    }

    private static void takenIs(Works x, int payment, int... taken) {
        for (int lot = 0; lot < taken.length; lot++) {
            Check.due("taken(" + payment + ", " + lot + ")", x.taken(payment, lot), taken[lot]);
        }
    }

    private static void fillLots(Works x, int card, int lots) {
        for (int lot = Steps.countLots(x); lot < lots; lot++) {
            x.load(card, 1, false);
        }
    }

    // ---- paying

    private static final String TAKES = "A PAYMENT with a CARD for a price takes as many coins as the BEST price is from its"
        + " LOTS, in their ORDER, all that is LEFT of one ahead of the next one.";

    private static void takesTheBestPrice() {
        Check.sentence(0, TAKES);
        Works x = card(100);
        x.campaign(true, 50, 100);
        x.pay(0, 99);
        Check.due("below LEAST, took", x.ofPayment(0, 1), 99);
        x.giveBack(0, 99);
        x.pay(0, 100);
        Check.due("at LEAST, took", x.ofPayment(1, 1), 50);
        Check.due("BALANCE", x.ofCard(0, 1), 50);
        x.pay(0, 100);
        Check.due("all, took", x.ofPayment(2, 1), 50);
        Check.due("BALANCE", x.ofCard(0, 1), 0);
        x.load(0, 499, false);
        Check.notNow("half of 1000 is one more than the BALANCE", x, () -> x.pay(0, 1000));
        x.load(0, 1, false);
        x.pay(0, 1000);
        Check.due("of 1000, took", x.ofPayment(3, 1), 500);
    }

    private static void takesAllOfOneAheadOfTheNext() {
        Check.sentence(0, TAKES);
        int[] prices = {1, 4, 5, 6, 9, 10, 11, 14, 15};
        for (int price : prices) {
            Works x = card(5);
            x.load(0, 5, true);
            x.load(0, 5, false);
            x.pay(0, price);
            int gift = Math.min(5, price);
            int first = Math.min(5, price - gift);
            int last = price - gift - first;
            leftIs(x, 5 - first, 5 - gift, 5 - last);
            takenIs(x, 0, first, gift, last);
        }
    }

    private static final String NUMBERS = "PAYMENTS are numbered from 0, at most 40; each is of its CARD, keeps how many coins"
        + " it took from each LOT, and has a NET: what it took, less what was given back of it.";

    private static void numbers() {
        Check.sentence(0, NUMBERS);
        Works x = card(100);
        x.sell(1, 0, 100);
        for (int payment = 0; payment < 40; payment++) {
            int next = payment;
            Check.noSuch("ofPayment of the next one", x, () -> x.ofPayment(next, 0));
            Check.due("pay", x.pay(payment % 2, 1), payment);
            Check.due("its CARD", x.ofPayment(payment, 0), payment % 2);
        }
        Check.notNow("a 41st", x, () -> x.pay(0, 1));
        Check.notNow("a 41st, of the other CARD", x, () -> x.pay(1, 1));
        for (int payment = 0; payment < 40; payment++) {
            x.giveBack(payment, 1);
        }
        Check.notNow("PAYMENTS that are given back count, too", x, () -> x.pay(0, 1));
    }

    private static void keepsWhatItTook() {
        Check.sentence(0, NUMBERS);
        Works x = card(50);
        x.load(0, 10, true);
        x.pay(0, 25);
        x.pay(0, 7);
        takenIs(x, 0, 15, 10);
        takenIs(x, 1, 7, 0);
        Steps.pass(x, 100);
        takenIs(x, 0, 15, 10);
        Check.due("took", x.ofPayment(0, 1), 25);
        x.die(0, 9999);
        takenIs(x, 0, 15, 10);
        takenIs(x, 1, 7, 0);
    }

    private static void net() {
        Check.sentence(0, NUMBERS);
        Works x = card(50);
        x.pay(0, 10);
        Check.due("what it took", x.ofPayment(0, 2), 10);
        x.giveBack(0, 1);
        Check.due("less 1", x.ofPayment(0, 2), 9);
        x.giveBack(0, 8);
        Check.due("less 9", x.ofPayment(0, 2), 1);
        x.giveBack(0, 1);
        Check.due("less all", x.ofPayment(0, 2), 0);
        Check.due("took stays", x.ofPayment(0, 1), 10);
    }

    // ---- giving back

    private static final String BACK = "Coins that are given back go to the LOTS from which the PAYMENT took them, beginning"
        + " with the one from which it took last, to each at most what it took from it and did not get back yet.";

    /** It took 5 of lot 1, 5 of lot 0 and 3 of lot 2. */
    private static Works tookOfThree() {
        Works x = card(5);
        x.load(0, 5, true);
        x.load(0, 5, false);
        x.pay(0, 13);
        return x;
    }

    private static void backBeginsWithTheLast() {
        Check.sentence(0, BACK);
        for (int coins = 1; coins <= 13; coins++) {
            Works x = tookOfThree();
            x.giveBack(0, coins);
            int last = Math.min(3, coins);
            int middle = Math.min(5, coins - last);
            int first = coins - last - middle;
            leftIs(x, middle, first, 2 + last);
            takenIs(x, 0, 5 - middle, 5 - first, 3 - last);
        }
    }

    private static void backByTheOrderNotByNumber() {
        Check.sentence(0, BACK);
        Works x = card(5);
        x.law(1, 7, 0, 0);
        x.sell(0, 1, 5);
        x.load(1, 5, true);
        x.join(0, 1);
        // Lot 2 ends in 6, lot 1 in 7, lot 0 never.
        x.pay(0, 15);
        x.giveBack(0, 6);
        leftIs(x, 5, 1, 0);
        x.giveBack(0, 5);
        leftIs(x, 5, 5, 1);
    }

    private static void backAtMostWhatItTook() {
        Check.sentence(0, BACK);
        Works x = tookOfThree();
        x.giveBack(0, 1);
        leftIs(x, 0, 0, 3);
        x.giveBack(0, 2);
        leftIs(x, 0, 0, 5);
        x.giveBack(0, 1);
        leftIs(x, 1, 0, 5);
        x.giveBack(0, 4);
        leftIs(x, 5, 0, 5);
        x.giveBack(0, 5);
        leftIs(x, 5, 5, 5);
        takenIs(x, 0, 0, 0, 0);
        // What another PAYMENT took of the same LOTS is no matter of this one.
        x.pay(0, 15);
        Check.outOfRange("a coin more", x, () -> x.giveBack(0, 1));
        takenIs(x, 1, 5, 5, 5);
    }

    private static void backOfTwoPayments() {
        Check.sentence(0, BACK);
        Works x = card(10);
        x.load(0, 4, true);
        x.pay(0, 2);
        x.pay(0, 5);
        takenIs(x, 0, 0, 2);
        takenIs(x, 1, 3, 2);
        x.giveBack(0, 2);
        takenIs(x, 0, 0, 0);
        takenIs(x, 1, 3, 2);
        leftIs(x, 7, 2);
        x.giveBack(1, 4);
        takenIs(x, 1, 0, 1);
        leftIs(x, 10, 3);
    }

    private static final String EXPIRED = "What would go to LOTS that have EXPIRED comes, all of it together, into one new LOT"
        + " on the CARD of the PAYMENT, which is RETURNED.";

    private static void newLotIs(Works x, int lot, int card, int coins) {
        Check.due("the new lot's CARD", x.ofLot(lot, 0), card);
        Check.due("RETURNED", x.ofLot(lot, 1), 1);
        Check.due("its coins", x.ofLot(lot, 2), coins);
        Check.due("its END", x.ofLot(lot, 3), x.month() + 3);
        Check.due("its BEGIN", x.ofLot(lot, 4), x.month());
    }

    private static void expiredTogether() {
        Check.sentence(0, EXPIRED);
        Works x = new Works();
        x.law(0, 6, 0, 0);
        x.sell(0, 0, 5);
        x.load(0, 5, true);
        x.load(0, 5, false);
        x.pay(0, 15);
        Steps.pass(x, 6);
        x.giveBack(0, 14);
        leftIs(x, 0, 0, 0, 14);
        newLotIs(x, 3, 0, 14);
        takenIs(x, 0, 0, 1, 0, 0);
        x.giveBack(0, 1);
        leftIs(x, 0, 0, 0, 14, 1);
        Check.due("not received", x.ofChain(0, 0), 10);
        Check.due("no gift", x.ofChain(0, 1), 5);
    }

    private static void expiredAndNot() {
        Check.sentence(0, EXPIRED);
        // 5 of a gift that has EXPIRED, 5 of coins BOUGHT that have not, and have no END.
        for (int coins = 1; coins <= 10; coins++) {
            Works x = card(5);
            x.load(0, 5, true);
            x.pay(0, 10);
            Steps.pass(x, 6);
            x.giveBack(0, coins);
            if (coins <= 5) {
                leftIs(x, coins, 0);
            } else {
                leftIs(x, 5, 0, coins - 5);
                newLotIs(x, 2, 0, coins - 5);
            }
        }
    }

    private static void newLotIsOnTheCardOfThePayment() {
        Check.sentence(0, EXPIRED);
        Works x = new Works();
        x.law(0, 6, 0, 0);
        x.sell(1, 0, 5);
        x.sell(1, 0, 5);
        x.sell(1, 0, 5);
        x.pay(1, 4);
        x.pay(2, 4);
        x.join(0, 2);
        Steps.pass(x, 6);
        x.giveBack(0, 2);
        newLotIs(x, 3, 1, 2);
        x.giveBack(1, 3);
        newLotIs(x, 4, 0, 3);
        Check.due("nothing on the CLOSED one", x.ofCard(2, 1), 0);
    }

    // ---- MARKS

    private static void aTenthOfTheNet() {
        Check.sentence(0, "A PAYMENT has a tenth of its NET as MARKS.");
        int[] prices = {1, 9, 10, 11, 19, 20, 99, 100, 499, 500};
        int[] marks = {0, 0, 1, 1, 1, 2, 9, 10, 49, 50};
        for (int i = 0; i < prices.length; i++) {
            Works x = card(500);
            x.pay(0, prices[i]);
            Check.due("MARKS of " + prices[i], x.ofPayment(0, 4), marks[i]);
            Check.due("PENDING of " + prices[i], x.ofCard(0, 6), marks[i]);
        }
        Works x = card(500);
        x.pay(0, 20);
        x.giveBack(0, 1);
        Check.due("MARKS of 19", x.ofPayment(0, 4), 1);
        x.giveBack(0, 9);
        Check.due("MARKS of 10", x.ofPayment(0, 4), 1);
        x.giveBack(0, 1);
        Check.due("MARKS of 9", x.ofPayment(0, 4), 0);
        x.pay(0, 9);
        Check.due("two PAYMENTS of 9 have none together", x.ofCard(0, 6), 0);
    }

    private static final String PENDING = "They are PENDING in its MONTH and the next one, and READY from then on.";

    private static void pendingAndReady() {
        Check.sentence(0, PENDING);
        for (int month : new int[] {0, 1, 11}) {
            Works x = card(500);
            Steps.pass(x, month);
            x.pay(0, 50);
            for (int behind = 0; behind <= 14; behind++) {
                boolean isReady = behind >= 2;
                Check.due("READY " + behind + " MONTHS on", x.ofCard(0, 5), isReady ? 5 : 0);
                Check.due("PENDING " + behind + " MONTHS on", x.ofCard(0, 6), isReady ? 0 : 5);
                Check.due("MARKS " + behind + " MONTHS on", x.ofPayment(0, 4), 5);
                x.pass();
            }
        }
        Works x = card(500);
        x.pay(0, 50);
        Check.notNow("PENDING ones, in the MONTH", x, () -> x.convert(0, 5));
        x.pass();
        Check.notNow("PENDING ones, in the next MONTH", x, () -> x.convert(0, 5));
        x.pass();
        Check.due("READY ones", x.convert(0, 5), 1);
    }

    private static void pendingAtTheEndOfMonths() {
        Check.sentence(0, PENDING);
        Works x = card(500);
        Steps.pass(x, 238);
        x.pay(0, 50);
        x.pass();
        x.pay(0, 70);
        x.pass();
        x.pay(0, 90);
        Check.due("READY in the last MONTH", x.ofCard(0, 5), 5);
        Check.due("PENDING in the last MONTH", x.ofCard(0, 6), 16);
    }

    private static final String MARKS = "The MARKS of a CARD are all READY ones of its PAYMENTS, less all that were converted"
        + " for it; that can be below 0.";

    private static void marksLessConverted() {
        Check.sentence(0, MARKS);
        Works x = card(500);
        x.sell(0, 0, 500);
        x.pay(0, 100);
        x.pay(0, 50);
        x.pay(1, 70);
        Steps.pass(x, 2);
        Check.due("of both PAYMENTS", x.ofCard(0, 5), 15);
        Check.due("of the other CARD", x.ofCard(1, 5), 7);
        x.convert(0, 5);
        Check.due("less 5", x.ofCard(0, 5), 10);
        x.convert(0, 10);
        Check.due("less all", x.ofCard(0, 5), 0);
        Check.due("those of the other CARD stay", x.ofCard(1, 5), 7);
        Check.due("those of the PAYMENT stay", x.ofPayment(0, 4), 10);
    }

    private static void marksBelowZero() {
        Check.sentence(0, MARKS);
        Works x = card(500);
        x.pay(0, 50);
        Steps.pass(x, 2);
        x.convert(0, 5);
        x.giveBack(0, 1);
        Check.due("-1", x.ofCard(0, 5), -1);
        x.giveBack(0, 49);
        Check.due("-5", x.ofCard(0, 5), -5);
        x.pay(0, 99);
        Check.due("PENDING ones are apart", x.ofCard(0, 6), 9);
        Check.due("and do not count", x.ofCard(0, 5), -5);
        Steps.pass(x, 2);
        Check.due("-5 and 9", x.ofCard(0, 5), 4);
        Check.notNow("4 are fewer than 5", x, () -> x.convert(0, 5));
        x.pay(0, 10);
        Steps.pass(x, 2);
        Check.due("5 of 5", x.convert(0, 5), 1);
        Check.due("none then", x.ofCard(0, 5), 0);
    }

    private static void fiveForACoin() {
        Check.sentence(0, "Five MARKS are converted into a coin, of a new LOT that is CONVERTED.");
        for (int marks = 5; marks <= 50; marks += 5) {
            Works x = card(500);
            x.pay(0, 500);
            Steps.pass(x, 2);
            Check.due("coins", x.convert(0, marks), marks / 5);
            Check.due("ORIGIN", x.ofLot(1, 1), 2);
            Check.due("LEFT", x.ofLot(1, 2), marks / 5);
            Check.noSuch("one new lot alone", x, () -> x.ofLot(2, 0));
            Check.due("BALANCE", x.ofCard(0, 1), marks / 5);
            Check.due("came", x.ofChain(0, 1), marks / 5);
        }
    }

    // ---- promise 11: pay

    private static void payNothing() {
        Check.sentence(11, "Makes a PAYMENT; the BEST price can be 0.");
        Works x = card(1);
        x.campaign(false, 200, 0);
        Check.due("pay", x.pay(0, 200), 0);
        Check.due("took", x.ofPayment(0, 1), 0);
        Check.due("NET", x.ofPayment(0, 2), 0);
        Check.due("MARKS", x.ofPayment(0, 4), 0);
        takenIs(x, 0, 0);
        leftIs(x, 1);
        x.pay(0, 201);
        leftIs(x, 0);
        Check.due("with a BALANCE of 0", x.pay(0, 200), 2);
        Check.notNow("a price of 1 with a BALANCE of 0", x, () -> x.pay(0, 201));
    }

    private static Works rich() {
        Works x = card(500);
        x.load(0, 500, false);
        return x;
    }

    private static void payRange() {
        Check.sentence(11, "`price`: 1 to 1000");
        Edges.range("price", EdgesOfPaymentsTest::rich, (x, price) -> x.pay(0, price), 1, 1000);
        Works x = rich();
        x.pay(0, 1000);
        leftIs(x, 0, 0);
        takenIs(x, 0, 500, 500);
        Check.due("took", x.ofPayment(0, 1), 1000);
        Works y = rich();
        y.pay(0, 1);
        leftIs(y, 499, 500);
    }

    private static void payNumber() {
        Check.sentence(11, "Returns its number.");
        Works x = rich();
        Check.due("the first", x.pay(0, 1), 0);
        Check.notNow("a refused one", x, () -> x.pay(0, 1000));
        Check.due("behind a refused one", x.pay(0, 1), 1);
        x.giveBack(0, 1);
        Check.due("behind one given back", x.pay(0, 1), 2);
    }

    private static Works threeCards() {
        Works x = card(9);
        x.sell(1, 0, 9);
        x.sell(0, 1, 9);
        return x;
    }

    private static void payWithoutCard() {
        Check.sentence(11, "Throws `IndexOutOfBoundsException` if there is no such CARD");
        Edges.places("card", EdgesOfPaymentsTest::threeCards, (x, card) -> x.pay(card, 1), 3);
    }

    private static void payOutOfRange() {
        Check.sentence(11, "Throws `IllegalArgumentException` if price is out of range");
        Works x = rich();
        Check.outOfRange("0", x, () -> x.pay(0, 0));
        Check.outOfRange("1001", x, () -> x.pay(0, 1001));
        x.campaign(false, 200, 0);
        Check.outOfRange("0, where every price is less", x, () -> x.pay(0, 0));
        Check.outOfRange("1001, where the BEST price is 801", x, () -> x.pay(0, 1001));
    }

    private static void payForEachReason() {
        Check.sentence(11, "Throws `IllegalStateException` if whyNot() tells a reason");
        Works x = threeCards();
        x.join(0, 2);
        Check.notNow("CLOSED", x, () -> x.pay(2, 1));
        Steps.freeze(x, 0);
        Check.notNow("FROZEN", x, () -> x.pay(0, 1));
        x.free(0);
        Check.notNow("above the BALANCE", x, () -> x.pay(0, 19));
        x.die(1, 9999);
        Check.notNow("DEAD", x, () -> x.pay(1, 1));
        x.campaign(false, 1, 0);
        Check.notNow("DEAD, for a BEST price of 0", x, () -> x.pay(1, 1));
        Check.notNow("CLOSED, for a BEST price of 0", x, () -> x.pay(2, 1));
        Check.due("no reason", x.pay(0, 19), 0);
        for (int payment = 1; payment < 40; payment++) {
            x.pay(0, 1);
        }
        Check.notNow("40 PAYMENTS", x, () -> x.pay(0, 1));
    }

    // ---- promise 12: whyNot

    private static final String REASONS = "Tells why a PAYMENT cannot be made: the first of 1 the CARD is CLOSED, 2 it is"
        + " FROZEN, 3 its CHAIN is DEAD, 4 the BEST price is above its BALANCE, 5 there are 40.";

    private static void firstReason() {
        Check.sentence(12, REASONS);
        Works x = new Works();
        for (int card = 0; card < 4; card++) {
            x.sell(0, 0, 100);
        }
        x.sell(1, 0, 50);
        x.join(0, 1);
        Steps.freeze(x, 2);
        Check.due("CLOSED", x.whyNot(1, 1), 1);
        Check.due("FROZEN", x.whyNot(2, 1), 2);
        Check.due("FROZEN, and above the BALANCE", x.whyNot(2, 101), 2);
        Check.due("above the BALANCE", x.whyNot(3, 101), 4);
        for (int payment = 0; payment < 40; payment++) {
            x.pay(4, 1);
        }
        Check.due("CLOSED, and 40", x.whyNot(1, 1), 1);
        Check.due("FROZEN, and 40", x.whyNot(2, 1), 2);
        Check.due("above the BALANCE, and 40", x.whyNot(4, 11), 4);
        Check.due("40", x.whyNot(4, 10), 5);
        x.die(0, 0);
        Check.due("CLOSED and DEAD", x.whyNot(1, 1), 1);
        Check.due("FROZEN and DEAD", x.whyNot(2, 1), 2);
        Check.due("DEAD, above the BALANCE, and 40", x.whyNot(3, 1), 3);
        x.campaign(false, 1, 0);
        Check.due("DEAD, and 40", x.whyNot(3, 1), 3);
        Check.due("of the living chain", x.whyNot(4, 1), 5);
    }

    private static void aboveTheBalance() {
        Check.sentence(12, REASONS);
        Works x = card(100);
        Check.due("just the BALANCE", x.whyNot(0, 100), 0);
        Check.due("one more", x.whyNot(0, 101), 4);
        x.campaign(false, 1, 0);
        Check.due("just the BALANCE, by a CAMPAIGN", x.whyNot(0, 101), 0);
        Check.due("one more, by a CAMPAIGN", x.whyNot(0, 102), 4);
        x.pay(0, 101);
        Check.due("0 with a BALANCE of 0", x.whyNot(0, 1), 0);
        Check.due("1 with a BALANCE of 0", x.whyNot(0, 2), 4);
    }

    private static void fortyPayments() {
        Check.sentence(12, REASONS);
        Works x = card(500);
        for (int payment = 0; payment < 39; payment++) {
            x.pay(0, 1);
        }
        Check.due("39", x.whyNot(0, 1), 0);
        x.pay(0, 1);
        Check.due("40", x.whyNot(0, 1), 5);
        Check.due("40, for all that is there", x.whyNot(0, 460), 5);
        Check.due("40, for more than that", x.whyNot(0, 461), 4);
    }

    private static void whyNotRange() {
        Check.sentence(12, "`price`: 1 to 1000");
        Edges.range("price", EdgesOfPaymentsTest::rich, (x, price) -> x.whyNot(0, price), 1, 1000);
        Check.sentence(12, "Returns the reason; 0 if it can.");
        Check.due("1 of 1000", rich().whyNot(0, 1), 0);
        Check.due("1000 of 1000", rich().whyNot(0, 1000), 0);
        Check.due("1000 of 500", card(500).whyNot(0, 1000), 4);
        Works x = rich();
        Check.changesNothing("whyNot that tells no reason", x, () -> x.whyNot(0, 500));
        Works y = card(1);
        Check.changesNothing("whyNot that tells one", y, () -> y.whyNot(0, 500));
    }

    private static void whyNotWithoutCard() {
        Check.sentence(12, "Throws `IndexOutOfBoundsException` if there is no such CARD");
        Edges.places("card", EdgesOfPaymentsTest::threeCards, (x, card) -> x.whyNot(card, 1), 3);
        Edges.noSuch("card of none", Works::new, (x, card) -> x.whyNot(card, 1), 0, 12);
    }

    private static void whyNotOutOfRange() {
        Check.sentence(12, "Throws `IllegalArgumentException` if price is out of range");
        Works x = threeCards();
        x.join(0, 2);
        x.die(1, 0);
        for (int card = 0; card < 3; card++) {
            int of = card;
            Check.outOfRange("0", x, () -> x.whyNot(of, 0));
            Check.outOfRange("1001", x, () -> x.whyNot(of, 1001));
        }
    }

    // ---- promise 13: giveBack

    private static Works paid() {
        Works x = card(100);
        x.pay(0, 20);
        return x;
    }

    private static void giveBackFrozenOrNot() {
        Check.sentence(13, "Gives coins of a PAYMENT back, whether its CARD is FROZEN or not.");
        Works x = paid();
        Check.due("OPEN", x.giveBack(0, 3), 17);
        Steps.freeze(x, 0);
        Check.due("FROZEN", x.giveBack(0, 3), 14);
        leftIs(x, 86);
        Check.due("FROZEN it stays", x.ofCard(0, 0), 1);
        Works y = new Works();
        y.law(0, 6, 0, 0);
        y.sell(0, 0, 20);
        y.pay(0, 20);
        Steps.pass(y, 6);
        Steps.freeze(y, 0);
        Check.due("FROZEN, into a new lot", y.giveBack(0, 5), 15);
        newLotIs(y, 1, 0, 5);
    }

    private static final String BACK_RANGE = "`coins`: 1 to the NET";

    private static void giveBackRange() {
        Check.sentence(13, BACK_RANGE);
        Edges.range("coins", EdgesOfPaymentsTest::paid, (x, coins) -> x.giveBack(0, coins), 1, 20);
        Works less = paid();
        less.giveBack(0, 5);
        Check.outOfRange("16 of 15", less, () -> less.giveBack(0, 16));
        Check.due("15 of 15", less.giveBack(0, 15), 0);
        Check.outOfRange("1 of 0", less, () -> less.giveBack(0, 1));
        Check.outOfRange("0 of 0", less, () -> less.giveBack(0, 0));
        Works one = card(1);
        one.pay(0, 1);
        Check.outOfRange("2 of 1", one, () -> one.giveBack(0, 2));
        Check.due("1 of 1", one.giveBack(0, 1), 0);
        Works none = card(1);
        none.campaign(false, 1, 0);
        none.pay(0, 1);
        Check.outOfRange("1 of a PAYMENT of nothing", none, () -> none.giveBack(0, 1));
        Works most = rich();
        most.pay(0, 1000);
        Check.outOfRange("1001 of 1000", most, () -> most.giveBack(0, 1001));
        Check.due("1000 of 1000", most.giveBack(0, 1000), 0);
    }

    private static void giveBackAnswersTheNet() {
        Check.sentence(13, "Returns the NET then.");
        Works x = paid();
        x.pay(0, 30);
        Check.due("of the first", x.giveBack(0, 1), 19);
        Check.due("of the second", x.giveBack(1, 29), 1);
        Check.due("of the first, 0", x.giveBack(0, 19), 0);
    }

    private static void giveBackWithoutPayment() {
        Check.sentence(13, "Throws `IndexOutOfBoundsException` if there is no such PAYMENT");
        Edges.places("payment", () -> {
            Works x = paid();
            x.pay(0, 1);
            x.pay(0, 1);
            return x;
        }, (x, payment) -> x.giveBack(payment, 1), 3);
        Edges.noSuch("payment of none", () -> card(5), (x, payment) -> x.giveBack(payment, 1), 0, 39, 40);
    }

    private static void giveBackOutOfRange() {
        Check.sentence(13, "Throws `IllegalArgumentException` if coins is out of range");
        Works x = paid();
        Check.outOfRange("0", x, () -> x.giveBack(0, 0));
        Check.outOfRange("21", x, () -> x.giveBack(0, 21));
        x.die(0, 9999);
        Check.outOfRange("0 of a DEAD chain", x, () -> x.giveBack(0, 0));
        Check.outOfRange("21 of a DEAD chain", x, () -> x.giveBack(0, 21));
    }

    private static final String BACK_NOT_NOW =
        "Throws `IllegalStateException` if the CHAIN is DEAD, or a new LOT would come and there are 60";

    private static void giveBackOfTheDead() {
        Check.sentence(13, BACK_NOT_NOW);
        Works x = paid();
        x.sell(1, 0, 50);
        x.pay(1, 50);
        x.die(0, 9999);
        Check.notNow("1", x, () -> x.giveBack(0, 1));
        Check.notNow("all", x, () -> x.giveBack(0, 20));
        Check.due("of a living chain", x.giveBack(1, 50), 0);
    }

    /** A PAYMENT of 10 coins that have EXPIRED, and 10 that have not. */
    private static Works halfExpired(int lots) {
        Works x = card(10);
        x.load(0, 10, true);
        x.pay(0, 20);
        Steps.pass(x, 6);
        fillLots(x, 0, lots);
        return x;
    }

    private static void giveBackWithSixtyLots() {
        Check.sentence(13, BACK_NOT_NOW);
        Works less = halfExpired(59);
        Check.due("with 59 LOTS", less.giveBack(0, 11), 9);
        newLotIs(less, 59, 0, 1);
        Check.notNow("with 60 LOTS then", less, () -> less.giveBack(0, 1));
        Works full = halfExpired(60);
        Check.notNow("11 of 20, of which 1 has EXPIRED", full, () -> full.giveBack(0, 11));
        Check.notNow("20", full, () -> full.giveBack(0, 20));
        Check.due("10 that have not", full.giveBack(0, 10), 10);
        Check.notNow("1 that has", full, () -> full.giveBack(0, 1));
    }

    private static void giveBackWithSixtyLotsAndNoNewOne() {
        Check.sentence(13, BACK_NOT_NOW);
        Works x = paid();
        fillLots(x, 0, 60);
        Check.due("1", x.giveBack(0, 1), 19);
        Check.due("all", x.giveBack(0, 19), 0);
        Works y = new Works();
        y.law(0, 6, 0, 0);
        y.sell(0, 0, 10);
        y.pay(0, 10);
        fillLots(y, 0, 60);
        Steps.pass(y, 5);
        Check.due("in the MONTH ahead of the END", y.giveBack(0, 1), 9);
        y.pass();
        Check.notNow("in the MONTH of the END", y, () -> y.giveBack(0, 1));
    }

    // ---- promise 14: convert

    /** A CARD with 500 MARKS, or one less. */
    private static Works manyMarks(boolean isOneLess) {
        Works x = card(500);
        for (int lot = 1; lot < 10; lot++) {
            x.load(0, 500, false);
        }
        for (int payment = 0; payment < 5; payment++) {
            x.pay(0, 1000);
        }
        Steps.pass(x, 2);
        if (isOneLess) {
            x.giveBack(0, 1);
        }
        return x;
    }

    private static void convertMarksOfACard() {
        Check.sentence(14, "Converts MARKS of a CARD.");
        Works x = card(500);
        x.sell(0, 0, 500);
        x.pay(0, 50);
        x.pay(1, 100);
        Steps.pass(x, 2);
        x.convert(1, 5);
        Check.due("of this one", x.ofCard(1, 5), 5);
        Check.due("not of another", x.ofCard(0, 5), 5);
        Check.due("the lot is its", x.ofLot(2, 0), 1);
    }

    private static void convertRange() {
        Check.sentence(14, "`marks`: 5 to 500, a multiple of 5");
        Edges.takes("marks", () -> manyMarks(false), (x, marks) -> x.convert(0, marks), 5, 10, 15, 250, 490, 495, 500);
        Edges.outOfRange("marks", () -> manyMarks(false), (x, marks) -> x.convert(0, marks), 0, -5, 1, 4, 6, 7, 8, 9, 11,
            494, 496, 499, 501, 505, 1000, Integer.MIN_VALUE, Integer.MIN_VALUE + 3, Integer.MAX_VALUE,
            Integer.MAX_VALUE - 2);
    }

    private static void convertAnswersTheCoins() {
        Check.sentence(14, "Returns how many coins.");
        Check.due("the least", manyMarks(false).convert(0, 5), 1);
        Works x = manyMarks(false);
        Check.due("the most", x.convert(0, 500), 100);
        Check.due("MARKS then", x.ofCard(0, 5), 0);
        Check.due("BALANCE then", x.ofCard(0, 1), 100);
        Check.due("LEFT of the lot", x.ofLot(10, 2), 100);
    }

    private static void convertWithoutCard() {
        Check.sentence(14, "Throws `IndexOutOfBoundsException` if there is no such CARD");
        Edges.places("card", () -> {
            Works x = new Works();
            for (int card = 0; card < 3; card++) {
                x.sell(0, 0, 50);
                x.pay(card, 50);
            }
            Steps.pass(x, 2);
            return x;
        }, (x, card) -> x.convert(card, 5), 3);
        Edges.noSuch("card of none", Works::new, (x, card) -> x.convert(card, 5), 0, 12);
    }

    private static void convertOutOfRange() {
        Check.sentence(14, "Throws `IllegalArgumentException` if marks is out of range");
        Works x = card(9);
        Check.outOfRange("0, without MARKS", x, () -> x.convert(0, 0));
        Check.outOfRange("4, without MARKS", x, () -> x.convert(0, 4));
        Check.outOfRange("501, without MARKS", x, () -> x.convert(0, 501));
        Check.outOfRange("505, without MARKS", x, () -> x.convert(0, 505));
        x.die(0, 0);
        Check.outOfRange("0 of a DEAD chain", x, () -> x.convert(0, 0));
    }

    private static final String CONVERT_NOT_NOW = "Throws `IllegalStateException` if the CARD is not OPEN, its CHAIN is DEAD,"
        + " it has fewer MARKS, or there are 60 LOTS";

    private static Works withMarks() {
        Works x = card(500);
        x.pay(0, 100);
        Steps.pass(x, 2);
        return x;
    }

    private static void convertOfOneNotOpen() {
        Check.sentence(14, CONVERT_NOT_NOW);
        Works x = withMarks();
        Steps.freeze(x, 0);
        Check.notNow("FROZEN", x, () -> x.convert(0, 5));
        x.free(0);
        Check.due("OPEN", x.convert(0, 5), 1);
        x.sell(0, 0, 1);
        x.join(1, 0);
        Check.notNow("CLOSED", x, () -> x.convert(0, 5));
        Check.due("the one", x.convert(1, 5), 1);
    }

    private static void convertOfTheDead() {
        Check.sentence(14, CONVERT_NOT_NOW);
        Works x = withMarks();
        x.die(1, 0);
        Check.due("another chain is DEAD", x.convert(0, 5), 1);
        x.die(0, 9999);
        Check.notNow("DEAD", x, () -> x.convert(0, 5));
        Check.due("its MARKS stay", x.ofCard(0, 5), 5);
    }

    private static void convertOfTooFew() {
        Check.sentence(14, CONVERT_NOT_NOW);
        Works x = withMarks();
        Check.notNow("15 of 10", x, () -> x.convert(0, 15));
        Check.due("10 of 10", x.convert(0, 10), 2);
        Check.notNow("5 of 0", x, () -> x.convert(0, 5));
        Works less = withMarks();
        less.giveBack(0, 1);
        Check.notNow("10 of 9", less, () -> less.convert(0, 10));
        Check.due("5 of 9", less.convert(0, 5), 1);
        Check.notNow("5 of 4", less, () -> less.convert(0, 5));
        Works most = manyMarks(true);
        Check.due("499 are there", most.ofCard(0, 5), 499);
        Check.notNow("500 of 499", most, () -> most.convert(0, 500));
        Check.due("495 of 499", most.convert(0, 495), 99);
    }

    private static void convertWithSixtyLots() {
        Check.sentence(14, CONVERT_NOT_NOW);
        Works x = withMarks();
        fillLots(x, 0, 59);
        Check.due("with 59 LOTS", x.convert(0, 5), 1);
        Check.due("the 60th", x.ofLot(59, 1), 2);
        Check.notNow("with 60 LOTS", x, () -> x.convert(0, 5));
        Check.due("its MARKS stay", x.ofCard(0, 5), 5);
    }
}
