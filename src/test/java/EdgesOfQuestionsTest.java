/** The ends of what the document says in promises 21 to 29, of questions, and of the constants. */
final class EdgesOfQuestionsTest {
    private EdgesOfQuestionsTest() {
    }

    public static void main(String[] args) {
        constants();
        questionsChangeNothing();
        ofCard();
        ofCardWhat();
        ofCardWithoutCard();
        ofCardOutOfRange();
        ofLot();
        ofLotWhat();
        ofLotWithoutLot();
        ofLotOutOfRange();
        orderAt();
        orderAtFirst();
        orderAtBeyond();
        orderAtWithoutCard();
        ofPayment();
        ofPaymentWhat();
        ofPaymentWithoutPayment();
        ofPaymentOutOfRange();
        taken();
        takenWithoutPaymentOrLot();
        ofChain();
        ofChainWhat();
        ofChainWithoutChain();
        ofChainOutOfRange();
        owed();
        owedWithoutLandOrChain();
        leftAnew();
        leftAnewWithoutChain();
        bookedByAge();
        bookedByRate();
        bookedIsRoundedOnce();
        bookedByWhatIsLeft();
        bookedOfBoughtOnly();
        bookedOfTheLongestLife();
        bookedWithoutChain();
        Check.end();
    }

    private static void constants() {
        Check.sentence(0, "The constants: `NONE = -1`: There is none.");
        Check.due("NONE", Voucherworks.NONE, -1);
        Check.sentence(0, "`BOUGHT = 0, RETURNED = 1, CONVERTED = 2, GRANTED = 3`: ORIGINS of LOTS.");
        Check.due("BOUGHT", Voucherworks.BOUGHT, 0);
        Check.due("RETURNED", Voucherworks.RETURNED, 1);
        Check.due("CONVERTED", Voucherworks.CONVERTED, 2);
        Check.due("GRANTED", Voucherworks.GRANTED, 3);
        Check.sentence(0, "`OPEN = 0, FROZEN = 1, CLOSED = 2`: How a CARD is.");
        Check.due("OPEN", Voucherworks.OPEN, 0);
        Check.due("FROZEN", Voucherworks.FROZEN, 1);
        Check.due("CLOSED", Voucherworks.CLOSED, 2);
    }

    /** Something of everything: CARDS of each kind, LOTS of each ORIGIN, PAYMENTS, MISSES and CAMPAIGNS. */
    private static Works something() {
        Works x = new Works();
        x.law(0, 0, 1, 50);
        x.law(1, 6, 2, 30);
        x.rate(0, 40);
        x.campaign(true, 10, 50);
        x.campaign(false, 3, 0);
        x.sell(0, 0, 300);
        x.sell(0, 1, 200);
        x.sell(0, 2, 100);
        x.sell(1, 1, 50);
        x.sell(2, 2, 40);
        x.load(0, 60, true);
        x.pay(0, 130);
        x.pay(1, 100);
        Steps.pass(x, 6);
        x.convert(0, 5);
        x.load(0, 9, true);
        x.giveBack(1, 30);
        x.join(0, 2);
        x.attempt(0, 0);
        Steps.freeze(x, 3);
        x.die(2, 15);
        return x;
    }

    private static void questionsChangeNothing() {
        Check.sentence(0, "Questions change nothing.");
        Works x = something();
        Check.changesNothing("month", x, x::month);
        Check.changesNothing("best", x, () -> x.best(700));
        Check.changesNothing("bestAnew", x, () -> x.bestAnew(700));
        Check.changesNothing("fewest", x, () -> x.fewest(700));
        Check.changesNothing("whyNot", x, () -> x.whyNot(0, 100));
        for (int what = 0; what <= 8; what++) {
            int of = what;
            Check.changesNothing("ofChain", x, () -> x.ofChain(0, of));
            if (of <= 7) {
                Check.changesNothing("ofCard", x, () -> x.ofCard(0, of));
            }
            if (of <= 4) {
                Check.changesNothing("ofLot", x, () -> x.ofLot(0, of));
                Check.changesNothing("ofPayment", x, () -> x.ofPayment(0, of));
            }
        }
        Check.changesNothing("orderAt", x, () -> x.orderAt(0, 1));
        Check.changesNothing("taken", x, () -> x.taken(0, 1));
        Check.changesNothing("owed", x, () -> x.owed(1, 0));
        Check.changesNothing("leftAnew", x, () -> x.leftAnew(0));
        Check.changesNothing("booked", x, () -> x.booked(0));
    }

    // ---- promise 21: ofCard

    private static final String OF_CARD = "Tells of a CARD: 0 how it is, OPEN to CLOSED, 1 its BALANCE, 2 its USE, 3 its MISSES,"
        + " 4 its CODE, 5 its MARKS, 6 how many MARKS of its PAYMENTS are PENDING, 7 the LIFE that it keeps.";

    private static void cardIs(Works x, int card, int... want) {
        for (int what = 0; what <= 7; what++) {
            Check.due("ofCard(" + card + ", " + what + ")", x.ofCard(card, what), want[what]);
        }
    }

    private static void ofCard() {
        Check.sentence(21, OF_CARD);
        Works x = new Works();
        x.law(0, 0, 0, 0);
        x.sell(0, 0, 300);
        cardIs(x, 0, 0, 300, 0, 0, 27182, 0, 0, 0);
        x.pay(0, 100);
        Steps.pass(x, 2);
        x.pay(0, 30);
        x.attempt(0, 0);
        x.law(0, 60, 0, 0);
        x.sell(0, 0, 500);
        cardIs(x, 0, 0, 170, 2, 1, 27182, 10, 3, 0);
        cardIs(x, 1, 0, 500, 2, 0, 62899, 0, 0, 60);
        Steps.freeze(x, 1);
        cardIs(x, 1, 1, 500, 2, 0, 62899, 0, 0, 60);
        x.free(1);
        x.convert(0, 10);
        x.giveBack(0, 10);
        cardIs(x, 0, 0, 182, 2, 1, 27182, -1, 3, 0);
        x.join(1, 0);
        cardIs(x, 0, 2, 0, 2, 0, 27182, 0, 0, 0);
        cardIs(x, 1, 0, 682, 2, 0, 62899, -1, 3, 60);
    }

    private static Works threeCards() {
        Works x = new Works();
        x.sell(0, 0, 10);
        x.sell(1, 1, 20);
        x.sell(2, 2, 30);
        return x;
    }

    private static void ofCardWhat() {
        Check.sentence(21, "`what`: 0 to 7");
        Edges.range("what", EdgesOfQuestionsTest::threeCards, (x, what) -> x.ofCard(2, what), 0, 7);
    }

    private static void ofCardWithoutCard() {
        Check.sentence(21, "Throws `IndexOutOfBoundsException` if there is no such CARD");
        for (int what = 0; what <= 7; what++) {
            int of = what;
            Edges.places("card", EdgesOfQuestionsTest::threeCards, (x, card) -> x.ofCard(card, of), 3);
        }
        Edges.noSuch("card of none", Works::new, (x, card) -> x.ofCard(card, 0), 0, 11, 12);
    }

    private static void ofCardOutOfRange() {
        Check.sentence(21, "Throws `IllegalArgumentException` if what is out of range");
        Works x = threeCards();
        Check.outOfRange("-1", x, () -> x.ofCard(0, -1));
        Check.outOfRange("8", x, () -> x.ofCard(0, 8));
    }

    // ---- promise 22: ofLot

    private static final String OF_LOT = "Tells of a LOT: 0 the CARD on which it is, 1 its ORIGIN, 2 how many coins it has LEFT,"
        + " 3 its END, NONE without, 4 its BEGIN.";

    private static void lotIs(Works x, int lot, int... want) {
        for (int what = 0; what <= 4; what++) {
            Check.due("ofLot(" + lot + ", " + what + ")", x.ofLot(lot, what), want[what]);
        }
    }

    private static void ofLot() {
        Check.sentence(22, OF_LOT);
        Works x = new Works();
        x.law(0, 0, 0, 0);
        x.sell(0, 0, 1);
        x.sell(0, 1, 500);
        lotIs(x, 0, 0, 0, 1, Voucherworks.NONE, 0);
        lotIs(x, 1, 1, 0, 500, 24, 0);
        x.pay(1, 500);
        lotIs(x, 1, 1, 0, 0, 24, 0);
        Steps.pass(x, 24);
        x.giveBack(0, 60);
        lotIs(x, 1, 1, 0, 0, 24, 0);
        lotIs(x, 2, 1, 1, 60, 27, 24);
        x.convert(1, 40);
        lotIs(x, 3, 1, 2, 8, 36, 24);
        x.load(1, 4, true);
        lotIs(x, 4, 1, 3, 4, 30, 24);
        x.join(0, 1);
        lotIs(x, 4, 0, 3, 4, 30, 24);
        Steps.pass(x, 6);
        lotIs(x, 4, 0, 3, 0, 30, 24);
    }

    private static void ofLotWhat() {
        Check.sentence(22, "`what`: 0 to 4");
        Edges.range("what", EdgesOfQuestionsTest::threeCards, (x, what) -> x.ofLot(2, what), 0, 4);
    }

    private static void ofLotWithoutLot() {
        Check.sentence(22, "Throws `IndexOutOfBoundsException` if there is no such LOT");
        for (int what = 0; what <= 4; what++) {
            int of = what;
            Edges.places("lot", EdgesOfQuestionsTest::threeCards, (x, lot) -> x.ofLot(lot, of), 3);
        }
        Edges.noSuch("lot of none", Works::new, (x, lot) -> x.ofLot(lot, 0), 0, 59, 60);
        Edges.places("lot", EdgesOfQuestionsTest::sixtyLots, (x, lot) -> x.ofLot(lot, 0), 60);
    }

    private static Works sixtyLots() {
        Works x = new Works();
        x.sell(0, 0, 1);
        for (int lot = 1; lot < 60; lot++) {
            x.load(0, 1, false);
        }
        return x;
    }

    private static void ofLotOutOfRange() {
        Check.sentence(22, "Throws `IllegalArgumentException` if what is out of range");
        Works x = threeCards();
        Check.outOfRange("-1", x, () -> x.ofLot(0, -1));
        Check.outOfRange("5", x, () -> x.ofLot(0, 5));
    }

    // ---- promise 23: orderAt

    private static void orderAt() {
        Check.sentence(23, "Returns the LOT at a place of the ORDER.");
        Works x = sixtyLots();
        for (int place = 0; place < 60; place++) {
            Check.due("orderAt(0, " + place + ")", x.orderAt(0, place), place);
        }
        x.pay(0, 30);
        for (int place = 0; place < 30; place++) {
            Check.due("orderAt(0, " + place + ") then", x.orderAt(0, place), 30 + place);
        }
        Check.due("orderAt(0, 30) then", x.orderAt(0, 30), -1);
    }

    private static void orderAtFirst() {
        Check.sentence(23, "`place`: 0 for the first one");
        Works x = threeCards();
        x.load(1, 5, true);
        Check.due("the first one", x.orderAt(1, 0), 3);
        Check.due("the second one", x.orderAt(1, 1), 1);
        Check.due("the first one of a single one", x.orderAt(2, 0), 2);
    }

    private static void orderAtBeyond() {
        Check.sentence(23, "Returns its number; NONE beyond.");
        Works x = threeCards();
        Check.due("just beyond", x.orderAt(0, 1), -1);
        Check.due("far beyond", x.orderAt(0, Integer.MAX_VALUE), -1);
        Works full = sixtyLots();
        Check.due("the last of 60", full.orderAt(0, 59), 59);
        Check.due("just beyond 60", full.orderAt(0, 60), -1);
        Check.due("more beyond 60", full.orderAt(0, 61), -1);
        x.pay(0, 10);
        Check.due("without coins", x.orderAt(0, 0), -1);
        Check.changesNothing("a place beyond", x, () -> x.orderAt(0, 1000));
    }

    private static void orderAtWithoutCard() {
        Check.sentence(23, "Throws `IndexOutOfBoundsException` if there is no such CARD, or place is below 0");
        Edges.places("card", EdgesOfQuestionsTest::threeCards, (x, card) -> x.orderAt(card, 0), 3);
        Edges.takes("place", EdgesOfQuestionsTest::threeCards, (x, place) -> x.orderAt(0, place), 0, 1, Integer.MAX_VALUE);
        Edges.noSuch("place", EdgesOfQuestionsTest::threeCards, (x, place) -> x.orderAt(0, place), -1, -2,
            Integer.MIN_VALUE);
        Edges.noSuch("card and place", EdgesOfQuestionsTest::threeCards, (x, both) -> x.orderAt(both, both), -1,
            Integer.MIN_VALUE);
        Edges.noSuch("card of none", Works::new, (x, card) -> x.orderAt(card, 0), 0, 12);
    }

    // ---- promise 24: ofPayment

    private static final String OF_PAYMENT = "Tells of a PAYMENT: 0 its CARD, 1 how many coins it took, 2 its NET, 3 its MONTH, 4"
        + " its MARKS, PENDING or READY.";

    private static void paymentIs(Works x, int payment, int... want) {
        for (int what = 0; what <= 4; what++) {
            Check.due("ofPayment(" + payment + ", " + what + ")", x.ofPayment(payment, what), want[what]);
        }
    }

    private static void ofPayment() {
        Check.sentence(24, OF_PAYMENT);
        Works x = new Works();
        x.law(0, 0, 0, 0);
        x.sell(0, 0, 500);
        x.sell(0, 0, 500);
        x.load(1, 500, false);
        x.pay(0, 1);
        paymentIs(x, 0, 0, 1, 1, 0, 0);
        Steps.pass(x, 3);
        x.pay(1, 1000);
        paymentIs(x, 1, 1, 1000, 1000, 3, 100);
        x.giveBack(1, 1);
        paymentIs(x, 1, 1, 1000, 999, 3, 99);
        for (int month = 3; month <= 6; month++) {
            paymentIs(x, 1, 1, 1000, 999, 3, 99);
            x.pass();
        }
        x.join(0, 1);
        paymentIs(x, 1, 0, 1000, 999, 3, 99);
        x.giveBack(1, 999);
        paymentIs(x, 1, 0, 1000, 0, 3, 0);
    }

    private static Works threePayments() {
        Works x = threeCards();
        x.pay(0, 1);
        x.pay(1, 2);
        x.pay(2, 3);
        return x;
    }

    private static void ofPaymentWhat() {
        Check.sentence(24, "`what`: 0 to 4");
        Edges.range("what", EdgesOfQuestionsTest::threePayments, (x, what) -> x.ofPayment(2, what), 0, 4);
    }

    private static void ofPaymentWithoutPayment() {
        Check.sentence(24, "Throws `IndexOutOfBoundsException` if there is no such PAYMENT");
        for (int what = 0; what <= 4; what++) {
            int of = what;
            Edges.places("payment", EdgesOfQuestionsTest::threePayments, (x, payment) -> x.ofPayment(payment, of), 3);
        }
        Edges.noSuch("payment of none", EdgesOfQuestionsTest::threeCards, (x, payment) -> x.ofPayment(payment, 0),
            0, 39, 40);
        Edges.places("payment", EdgesOfQuestionsTest::fortyPayments, (x, payment) -> x.ofPayment(payment, 0), 40);
    }

    private static Works fortyPayments() {
        Works x = new Works();
        x.sell(0, 0, 40);
        for (int payment = 0; payment < 40; payment++) {
            x.pay(0, 1);
        }
        return x;
    }

    private static void ofPaymentOutOfRange() {
        Check.sentence(24, "Throws `IllegalArgumentException` if what is out of range");
        Works x = threePayments();
        Check.outOfRange("-1", x, () -> x.ofPayment(0, -1));
        Check.outOfRange("5", x, () -> x.ofPayment(0, 5));
    }

    // ---- promise 25: taken

    private static void taken() {
        Check.sentence(25, "Returns how many coins a PAYMENT took from a LOT and did not get back yet.");
        Works x = new Works();
        x.law(0, 6, 0, 0);
        x.sell(0, 0, 10);
        x.sell(0, 0, 10);
        x.pay(0, 10);
        Check.due("all of it", x.taken(0, 0), 10);
        Check.due("of another CARD's lot", x.taken(0, 1), 0);
        x.giveBack(0, 1);
        Check.due("less one", x.taken(0, 0), 9);
        Steps.pass(x, 6);
        x.giveBack(0, 8);
        Check.due("less eight that went into a new lot", x.taken(0, 0), 1);
        Check.due("of the new lot", x.taken(0, 2), 0);
        x.pay(0, 8);
        Check.due("of the new lot, by another PAYMENT", x.taken(1, 2), 8);
        Check.due("of the first lot, by that", x.taken(1, 0), 0);
        x.giveBack(0, 1);
        Check.due("nothing any more", x.taken(0, 0), 0);
    }

    private static void takenWithoutPaymentOrLot() {
        Check.sentence(25, "Throws `IndexOutOfBoundsException` if there is no such PAYMENT or LOT");
        Edges.places("payment", EdgesOfQuestionsTest::threePayments, (x, payment) -> x.taken(payment, 0), 3);
        Edges.places("lot", EdgesOfQuestionsTest::threePayments, (x, lot) -> x.taken(0, lot), 3);
        Edges.noSuch("payment of none", EdgesOfQuestionsTest::threeCards, (x, payment) -> x.taken(payment, 0), 0, 40);
        Edges.noSuch("neither", Works::new, (x, both) -> x.taken(both, both), -1, 0, 1, 40, 60);
        Edges.places("payment of 40", EdgesOfQuestionsTest::fortyPayments, (x, payment) -> x.taken(payment, 0), 40);
        Edges.places("lot of 60", () -> {
            Works x = sixtyLots();
            x.pay(0, 60);
            return x;
        }, (x, lot) -> x.taken(0, lot), 60);
    }

    // ---- promise 26: ofChain

    private static final String OF_CHAIN = "Tells of a CHAIN, of all so far: 0 coins received for LOTS that are BOUGHT, 1 coins of"
        + " LOTS that are CONVERTED or GRANTED as these came, 2 what all LOTS on its CARDS have LEFT, 3 the NET of all"
        + " PAYMENTS with its CARDS, 4 INCOME, 5 VOID, 6 PAID OUT, 7 LOST, 8 whether it is DEAD (1 or 0).";

    private static void chainIs(Works x, int chain, int... want) {
        for (int what = 0; what <= 8; what++) {
            Check.due("ofChain(" + chain + ", " + what + ") in MONTH " + x.month(), x.ofChain(chain, what), want[what]);
        }
    }

    private static void ofChain() {
        Check.sentence(26, OF_CHAIN);
        Works x = new Works();
        x.law(0, 6, 0, 50);
        x.law(1, 0, 3, 0);
        chainIs(x, 1, 0, 0, 0, 0, 0, 0, 0, 0, 0);
        x.sell(1, 0, 100);
        x.sell(1, 1, 50);
        x.load(0, 30, true);
        chainIs(x, 1, 150, 30, 180, 0, 0, 0, 0, 0, 0);
        x.pay(0, 60);
        chainIs(x, 1, 150, 30, 120, 60, 0, 0, 0, 0, 0);
        x.giveBack(0, 35);
        chainIs(x, 1, 150, 30, 155, 25, 0, 0, 0, 0, 0);
        x.pay(1, 50);
        Steps.pass(x, 6);
        // 100 BOUGHT coins end: 50 are OWED; 5 of the gift are VOID.
        chainIs(x, 1, 150, 30, 0, 75, 50, 5, 0, 0, 0);
        x.giveBack(0, 20);
        chainIs(x, 1, 150, 30, 20, 55, 50, 5, 0, 0, 0);
        x.convert(1, 5);
        chainIs(x, 1, 150, 31, 21, 55, 50, 5, 0, 0, 0);
        x.load(1, 40, false);
        Steps.pass(x, 3);
        // 20 RETURNED coins end: 10 are OWED.
        chainIs(x, 1, 190, 31, 41, 55, 60, 5, 0, 0, 0);
        Steps.pass(x, 9);
        // The CONVERTED coin is VOID, and there is a FEE of 3.
        chainIs(x, 1, 190, 31, 37, 55, 63, 6, 0, 0, 0);
        x.die(1, 30);
        chainIs(x, 1, 190, 31, 0, 55, 63, 6, 30, 7, 1);
        chainIs(x, 0, 0, 0, 0, 0, 0, 0, 0, 0, 0);
        Steps.pass(x, 20);
        chainIs(x, 1, 190, 31, 0, 55, 63, 6, 30, 7, 1);
    }

    private static void ofChainWhat() {
        Check.sentence(26, "`what`: 0 to 8");
        Edges.range("what", EdgesOfQuestionsTest::threeCards, (x, what) -> x.ofChain(3, what), 0, 8);
    }

    private static void ofChainWithoutChain() {
        Check.sentence(26, "Throws `IndexOutOfBoundsException` if there is no such CHAIN");
        for (int what = 0; what <= 8; what++) {
            int of = what;
            Edges.places("chain", EdgesOfQuestionsTest::threeCards, (x, chain) -> x.ofChain(chain, of), 4);
        }
    }

    private static void ofChainOutOfRange() {
        Check.sentence(26, "Throws `IllegalArgumentException` if what is out of range");
        Works x = threeCards();
        Check.outOfRange("-1", x, () -> x.ofChain(0, -1));
        Check.outOfRange("9", x, () -> x.ofChain(0, 9));
        x.die(0, 0);
        Check.outOfRange("9 of a DEAD one", x, () -> x.ofChain(0, 9));
    }

    // ---- promises 27 to 29: owed, leftAnew, booked

    private static void owed() {
        Check.sentence(27, "Returns the coins that are OWED to a LAND from CARDS of a CHAIN.");
        Works x = new Works();
        x.law(2, 6, 0, 100);
        x.sell(3, 2, 500);
        x.sell(3, 2, 1);
        x.sell(0, 2, 7);
        Steps.pass(x, 5);
        Check.due("not yet", x.owed(2, 3), 0);
        x.pass();
        for (int land = 0; land <= 2; land++) {
            for (int chain = 0; chain <= 3; chain++) {
                int due = land == 2 && chain == 3 ? 501 : land == 2 && chain == 0 ? 7 : 0;
                Check.due("owed(" + land + ", " + chain + ")", x.owed(land, chain), due);
            }
        }
        x.die(3, 9999);
        Steps.pass(x, 20);
        Check.due("OWED by a DEAD chain, too", x.owed(2, 3), 501);
    }

    private static void owedWithoutLandOrChain() {
        Check.sentence(27, "Throws `IndexOutOfBoundsException` if there is no such LAND or CHAIN");
        Edges.places("land", EdgesOfQuestionsTest::threeCards, (x, land) -> x.owed(land, 3), 3);
        Edges.places("chain", EdgesOfQuestionsTest::threeCards, (x, chain) -> x.owed(2, chain), 4);
        Edges.noSuch("land 3 of chain 3", EdgesOfQuestionsTest::threeCards, (x, both) -> x.owed(both, both), 3, 4, -1);
    }

    private static final String LEFT_ANEW = "Returns what all LOTS on CARDS of a CHAIN have LEFT, found by accounts: what was"
        + " received and what came as CONVERTED or GRANTED, less the NET of PAYMENTS, INCOME, VOID, PAID OUT, LOST, and"
        + " what is OWED to all LANDS.";

    private static void leftAnew() {
        Check.sentence(28, LEFT_ANEW);
        Works x = new Works();
        for (int land = 0; land < 3; land++) {
            x.law(land, 6 + land, land, 50 * land);
        }
        Check.due("of nothing", x.leftAnew(2), 0);
        x.sell(2, 0, 100);
        x.sell(2, 1, 101);
        x.sell(2, 2, 102);
        Check.due("received", x.leftAnew(2), 303);
        x.load(0, 50, true);
        Check.due("came", x.leftAnew(2), 353);
        x.pay(0, 90);
        Check.due("less the NET", x.leftAnew(2), 263);
        x.giveBack(0, 15);
        Check.due("more by what is given back", x.leftAnew(2), 278);
        Steps.pass(x, 6);
        Check.due("less INCOME", x.leftAnew(2), 203);
        x.pass();
        Check.due("less INCOME and OWED to land 1", x.leftAnew(2), 102);
        x.giveBack(0, 15);
        Check.due("more by what is RETURNED", x.leftAnew(2), 117);
        x.load(0, 5, true);
        x.pass();
        Check.due("less OWED to land 2", x.leftAnew(2), 20);
        x.convert(0, 5);
        Check.due("came as CONVERTED", x.leftAnew(2), 21);
        Steps.pass(x, 5);
        Check.due("less VOID", x.leftAnew(2), 1);
        Check.due("by LOTS", x.ofChain(2, 2), 1);
        x.load(0, 9, false);
        x.die(2, 5);
        Check.due("less PAID OUT and LOST", x.leftAnew(2), 0);
        Check.due("of another CHAIN", x.leftAnew(1), 0);
    }

    private static void leftAnewWithoutChain() {
        Check.sentence(28, "Throws `IndexOutOfBoundsException` if there is no such CHAIN");
        Edges.places("chain", EdgesOfQuestionsTest::threeCards, (x, chain) -> x.leftAnew(chain), 4);
    }

    private static final String BOOKED = "Returns the breakage that a CHAIN may book ahead: of each LOT on its CARDS that is BOUGHT"
        + " and has an END, what it has LEFT, times how many MONTHS it is behind its BEGIN, times the RATE, divided by 100"
        + " times how many MONTHS the END is behind the BEGIN, together; each LOT by itself is rounded down.";

    private static Works oneLot(int life, int rate, int coins) {
        Works x = new Works();
        x.law(0, life, 0, 0);
        x.rate(0, rate);
        x.sell(0, 0, coins);
        return x;
    }

    private static void bookedByAge() {
        Check.sentence(29, BOOKED);
        // 100 times the MONTHS, divided by 6.
        int[] want = {0, 16, 33, 50, 66, 83, 0, 0};
        for (int begin : new int[] {0, 7}) {
            Works x = new Works();
            x.law(0, 6, 0, 0);
            Steps.pass(x, begin);
            x.sell(0, 0, 100);
            x.rate(0, 100);
            for (int month = 0; month < want.length; month++) {
                Check.due("booked " + month + " MONTHS behind BEGIN", x.booked(0), want[month]);
                x.pass();
            }
        }
        Check.due("of nothing", new Works().booked(3), 0);
    }

    private static void bookedByRate() {
        Check.sentence(29, BOOKED);
        int[] rates = {0, 1, 2, 50, 99, 100};
        int[] want = {0, 0, 1, 25, 49, 50};
        for (int i = 0; i < rates.length; i++) {
            Works x = oneLot(10, rates[i], 100);
            x.sell(1, 0, 100);
            Steps.pass(x, 5);
            Check.due("booked by RATE " + rates[i], x.booked(0), want[i]);
            Check.due("booked of another CHAIN by its RATE", x.booked(1), 0);
            x.rate(0, 100);
            Check.due("booked by a RATE that is set later", x.booked(0), 50);
        }
    }

    /** Rounded once, in the end: 10 times 1 times 60 by 600 is 1, and 10 by 6 would be 1, and 60 hundredths of that 0. */
    private static void bookedIsRoundedOnce() {
        Check.sentence(29, BOOKED);
        Works x = oneLot(6, 60, 10);
        x.pass();
        Check.due("1 MONTH of 6", x.booked(0), 1);
        x.rate(0, 59);
        Check.due("just less than 1", x.booked(0), 0);
        Works y = oneLot(60, 1, 300);
        Steps.pass(y, 19);
        Check.due("300 times 19 by 6000", y.booked(0), 0);
        y.pass();
        Check.due("300 times 20 by 6000", y.booked(0), 1);
    }

    private static void bookedByWhatIsLeft() {
        Check.sentence(29, BOOKED);
        Works x = oneLot(10, 100, 19);
        x.load(0, 19, false);
        Steps.pass(x, 5);
        Check.due("9.5 and 9.5, each by itself", x.booked(0), 18);
        x.pay(0, 1);
        Check.due("9 and 9.5", x.booked(0), 18);
        x.pay(0, 1);
        Check.due("8.5 and 9.5", x.booked(0), 17);
        x.giveBack(0, 1);
        x.giveBack(1, 1);
        Check.due("given back", x.booked(0), 18);
        x.pay(0, 38);
        Check.due("nothing LEFT", x.booked(0), 0);
    }

    private static void bookedOfBoughtOnly() {
        Check.sentence(29, BOOKED);
        Works none = oneLot(0, 100, 500);
        Steps.pass(none, 240);
        Check.due("a LOT without END", none.booked(0), 0);
        Works x = new Works();
        x.law(0, 0, 0, 0);
        x.rate(0, 100);
        x.sell(0, 0, 1);
        x.load(0, 100, true);
        x.pay(0, 100);
        x.load(0, 100, true);
        Steps.pass(x, 6);
        x.giveBack(0, 10);
        x.convert(0, 5);
        x.load(0, 100, true);
        Steps.pass(x, 2);
        Check.due("RETURNED, CONVERTED and GRANTED ones", x.booked(0), 0);
        Check.due("which are there", x.ofCard(0, 1), 112);
    }

    private static void bookedOfTheLongestLife() {
        Check.sentence(29, BOOKED);
        Works x = oneLot(60, 100, 500);
        for (int lot = 1; lot < 60; lot++) {
            x.load(0, 500, false);
        }
        x.pass();
        // 500 times 1 by 60 is 8.33.
        Check.due("a MONTH of 60", x.booked(0), 60 * 8);
        Steps.pass(x, 58);
        // 500 times 59 by 60 is 491.67.
        Check.due("59 MONTHS of 60", x.booked(0), 60 * 491);
        x.pass();
        Check.due("60 MONTHS of 60", x.booked(0), 0);
        Works late = new Works();
        late.law(0, 60, 0, 0);
        late.rate(0, 100);
        Steps.pass(late, 210);
        late.sell(0, 0, 500);
        Steps.pass(late, 30);
        Check.due("half of the LIFE in the last MONTH", late.booked(0), 250);
    }

    private static void bookedWithoutChain() {
        Check.sentence(29, "Throws `IndexOutOfBoundsException` if there is no such CHAIN");
        Edges.places("chain", EdgesOfQuestionsTest::threeCards, (x, chain) -> x.booked(chain), 4);
    }
}
