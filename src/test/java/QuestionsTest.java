/** Promises 20 to 29: month, ofCard, ofLot, orderAt, ofPayment, taken, ofChain, owed, leftAnew, booked. */
final class QuestionsTest {
    private QuestionsTest() {
    }

    public static void main(String[] args) {
        constants();
        marksByMonth();
        marksAreRoundedByPayment();
        ofCardRefuses();
        ofLotRefuses();
        orderByEnd();
        orderByOrigin();
        orderAtRefuses();
        ofPayment();
        ofPaymentRefuses();
        takenRefuses();
        ofChain();
        ofChainRefuses();
        owedRefuses();
        leftAnew();
        booked();
        bookedLots();
        questionsChangeNothing();
        Check.end();
    }

    private static void constants() {
        Check.due("NONE", Voucherworks.NONE, -1);
        Check.due("BOUGHT", Voucherworks.BOUGHT, 0);
        Check.due("RETURNED", Voucherworks.RETURNED, 1);
        Check.due("CONVERTED", Voucherworks.CONVERTED, 2);
        Check.due("GRANTED", Voucherworks.GRANTED, 3);
        Check.due("OPEN", Voucherworks.OPEN, 0);
        Check.due("FROZEN", Voucherworks.FROZEN, 1);
        Check.due("CLOSED", Voucherworks.CLOSED, 2);
    }

    private static void marksByMonth() {
        Works x = new Works();
        x.sell(0, 0, 500);
        x.pay(0, 70);
        for (int month = 0; month < 2; month++) {
            Check.due("PENDING in its MONTH and the next", x.ofCard(0, 6), 7);
            Check.due("not READY then", x.ofCard(0, 5), 0);
            x.pass();
        }
        Check.due("READY two MONTHS on", x.ofCard(0, 5), 7);
        Check.due("not PENDING then", x.ofCard(0, 6), 0);
        x.pay(0, 30);
        Check.due("both: READY", x.ofCard(0, 5), 7);
        Check.due("both: PENDING", x.ofCard(0, 6), 3);
        Steps.pass(x, 50);
        Check.due("READY from then on", x.ofCard(0, 5), 10);
    }

    private static void marksAreRoundedByPayment() {
        Works x = new Works();
        x.sell(0, 0, 500);
        x.pay(0, 19);
        x.pay(0, 19);
        x.pay(0, 9);
        Check.due("1 and 1 and 0", x.ofCard(0, 6), 2);
        x.giveBack(0, 9);
        Check.due("a tenth of 10", x.ofPayment(0, 4), 1);
        x.giveBack(0, 1);
        Check.due("a tenth of 9", x.ofPayment(0, 4), 0);
        Check.due("PENDING then", x.ofCard(0, 6), 1);
    }

    private static void ofCardRefuses() {
        Works x = new Works();
        x.sell(0, 0, 5);
        Check.noSuch("ofCard(-1, 0)", x, () -> x.ofCard(-1, 0));
        Check.noSuch("ofCard(1, 8)", x, () -> x.ofCard(1, 8));
        Check.noSuch("ofCard(the least number)", x, () -> x.ofCard(Integer.MIN_VALUE, 0));
        Check.noSuch("ofCard(the greatest number)", x, () -> x.ofCard(Integer.MAX_VALUE, 0));
        Check.outOfRange("ofCard(0, -1)", x, () -> x.ofCard(0, -1));
        Check.outOfRange("ofCard(0, 8)", x, () -> x.ofCard(0, 8));
    }

    private static void ofLotRefuses() {
        Works x = new Works();
        x.sell(0, 0, 5);
        Check.noSuch("ofLot(-1, 0)", x, () -> x.ofLot(-1, 0));
        Check.noSuch("ofLot(1, 5)", x, () -> x.ofLot(1, 5));
        Check.noSuch("ofLot(60, 0)", x, () -> x.ofLot(60, 0));
        Check.outOfRange("ofLot(0, -1)", x, () -> x.ofLot(0, -1));
        Check.outOfRange("ofLot(0, 5)", x, () -> x.ofLot(0, 5));
    }

    private static void orderIs(Works x, int card, int... lots) {
        for (int place = 0; place < lots.length; place++) {
            Check.due("orderAt(" + card + ", " + place + ")", x.orderAt(card, place), lots[place]);
        }
        Check.due("orderAt beyond", x.orderAt(card, lots.length), Voucherworks.NONE);
        Check.due("orderAt far beyond", x.orderAt(card, Integer.MAX_VALUE), Voucherworks.NONE);
    }

    private static void orderByEnd() {
        Works x = new Works();
        x.law(0, 8, 0, 0);
        x.law(1, 0, 0, 0);
        x.sell(0, 0, 5);
        x.sell(0, 1, 5);
        x.load(1, 5, false);
        x.load(1, 5, true);
        Steps.pass(x, 1);
        x.load(0, 5, false);
        x.load(0, 5, true);
        // END: lot 0 8, lot 4 9, lot 5 7; on card 1 lots 1 and 2 without, lot 3 6.
        orderIs(x, 0, 5, 0, 4);
        orderIs(x, 1, 3, 1, 2);
        x.join(0, 1);
        orderIs(x, 0, 3, 5, 0, 4, 1, 2);
        orderIs(x, 1);
        x.pay(0, 7);
        orderIs(x, 0, 5, 0, 4, 1, 2);
        x.pay(0, 23);
        orderIs(x, 0);
        x.giveBack(1, 8);
        orderIs(x, 0, 1, 2);
    }

    /** With the same END: GRANTED, CONVERTED, RETURNED, BOUGHT. */
    private static void orderByOrigin() {
        Works x = new Works();
        x.law(0, 12, 0, 0);
        x.law(1, 6, 0, 0);
        x.sell(0, 0, 100);
        x.sell(0, 1, 400);
        x.pay(1, 300);
        Steps.pass(x, 3);
        x.join(0, 1);
        x.convert(0, 5);
        Steps.pass(x, 6);
        x.giveBack(0, 50);
        x.load(0, 1, true);
        // END: lot 0 12, lot 2 CONVERTED 15, lot 3 RETURNED 12, lot 4 GRANTED 15.
        orderIs(x, 0, 3, 0, 4, 2);
        Works y = new Works();
        y.law(0, 6, 0, 0);
        y.sell(0, 0, 5);
        y.load(0, 5, true);
        y.load(0, 5, false);
        y.load(0, 5, true);
        orderIs(y, 0, 1, 3, 0, 2);
    }

    private static void orderAtRefuses() {
        Works x = new Works();
        Check.noSuch("orderAt without cards", x, () -> x.orderAt(0, 0));
        x.sell(0, 0, 5);
        Check.noSuch("orderAt(-1, 0)", x, () -> x.orderAt(-1, 0));
        Check.noSuch("orderAt(1, 0)", x, () -> x.orderAt(1, 0));
        Check.noSuch("orderAt(0, -1)", x, () -> x.orderAt(0, -1));
        Check.noSuch("orderAt(0, the least number)", x, () -> x.orderAt(0, Integer.MIN_VALUE));
    }

    private static void ofPayment() {
        Works x = new Works();
        x.sell(0, 0, 5);
        x.sell(0, 0, 200);
        Steps.pass(x, 9);
        x.campaign(false, 10, 0);
        x.pay(1, 110);
        x.giveBack(0, 41);
        Check.due("its CARD", x.ofPayment(0, 0), 1);
        Check.due("took", x.ofPayment(0, 1), 100);
        Check.due("NET", x.ofPayment(0, 2), 59);
        Check.due("MONTH", x.ofPayment(0, 3), 9);
        Check.due("MARKS, PENDING", x.ofPayment(0, 4), 5);
        Steps.pass(x, 2);
        Check.due("MARKS, READY", x.ofPayment(0, 4), 5);
        x.convert(1, 5);
        Check.due("MARKS of the payment stay", x.ofPayment(0, 4), 5);
    }

    private static void ofPaymentRefuses() {
        Works x = new Works();
        x.sell(0, 0, 5);
        x.pay(0, 1);
        Check.noSuch("ofPayment(-1, 0)", x, () -> x.ofPayment(-1, 0));
        Check.noSuch("ofPayment(1, 5)", x, () -> x.ofPayment(1, 5));
        Check.outOfRange("ofPayment(0, -1)", x, () -> x.ofPayment(0, -1));
        Check.outOfRange("ofPayment(0, 5)", x, () -> x.ofPayment(0, 5));
    }

    private static void takenRefuses() {
        Works x = new Works();
        x.sell(0, 0, 5);
        Check.noSuch("taken without payments", x, () -> x.taken(0, 0));
        x.pay(0, 1);
        Check.noSuch("taken(-1, 0)", x, () -> x.taken(-1, 0));
        Check.noSuch("taken(1, 0)", x, () -> x.taken(1, 0));
        Check.noSuch("taken(0, -1)", x, () -> x.taken(0, -1));
        Check.noSuch("taken(0, 1)", x, () -> x.taken(0, 1));
        x.load(0, 1, false);
        Check.due("taken from a lot that came later", x.taken(0, 1), 0);
        Check.due("taken", x.taken(0, 0), 1);
    }

    private static void ofChain() {
        Works x = new Works();
        x.sell(0, 0, 100);
        x.sell(3, 1, 200);
        x.sell(3, 2, 50);
        x.load(1, 10, true);
        x.load(2, 20, false);
        x.pay(1, 110);
        x.pay(2, 30);
        x.giveBack(0, 5);
        Steps.pass(x, 2);
        x.convert(1, 10);
        int[] want = {270, 12, 147, 135, 0, 0, 0, 0, 0};
        for (int what = 0; what <= 8; what++) {
            Check.due("ofChain(3, " + what + ")", x.ofChain(3, what), want[what]);
        }
        Check.due("of another chain: received", x.ofChain(0, 0), 100);
        Check.due("of another chain: came", x.ofChain(0, 1), 0);
        Check.due("of another chain: LEFT", x.ofChain(0, 2), 100);
        Check.due("of another chain: NET", x.ofChain(0, 3), 0);
        Steps.pass(x, 10);
        Check.due("INCOME by FEES of one card", x.ofChain(3, 4), 2);
        Check.due("INCOME of the other chain", x.ofChain(0, 4), 2);
        Check.due("no VOID: the gift was spent", x.ofChain(3, 5), 0);
    }

    private static void ofChainRefuses() {
        Works x = new Works();
        Check.noSuch("ofChain(-1, 0)", x, () -> x.ofChain(-1, 0));
        Check.noSuch("ofChain(4, 9)", x, () -> x.ofChain(4, 9));
        Check.outOfRange("ofChain(0, -1)", x, () -> x.ofChain(0, -1));
        Check.outOfRange("ofChain(0, 9)", x, () -> x.ofChain(0, 9));
    }

    private static void owedRefuses() {
        Works x = new Works();
        Check.noSuch("owed(-1, 0)", x, () -> x.owed(-1, 0));
        Check.noSuch("owed(3, 0)", x, () -> x.owed(3, 0));
        Check.noSuch("owed(0, -1)", x, () -> x.owed(0, -1));
        Check.noSuch("owed(0, 4)", x, () -> x.owed(0, 4));
        Check.noSuch("leftAnew(-1)", x, () -> x.leftAnew(-1));
        Check.noSuch("leftAnew(4)", x, () -> x.leftAnew(4));
        Check.noSuch("booked(-1)", x, () -> x.booked(-1));
        Check.noSuch("booked(4)", x, () -> x.booked(4));
    }

    private static void leftAnew() {
        Works x = new Works();
        x.law(0, 6, 3, 33);
        x.law(1, 0, 3, 33);
        x.sell(2, 0, 100);
        x.sell(2, 1, 100);
        Check.due("received", x.leftAnew(2), 200);
        x.load(0, 50, true);
        Check.due("and came", x.leftAnew(2), 250);
        x.pay(1, 60);
        x.pay(0, 20);
        Check.due("less NET", x.leftAnew(2), 170);
        x.giveBack(0, 10);
        Check.due("less what was given back", x.leftAnew(2), 180);
        Steps.pass(x, 6);
        Check.due("less INCOME, OWED and VOID", x.leftAnew(2), 50);
        x.convert(1, 5);
        Check.due("and CONVERTED", x.leftAnew(2), 51);
        x.giveBack(1, 20);
        Check.due("and RETURNED", x.leftAnew(2), 71);
        Check.due("by lots", x.ofChain(2, 2), 71);
        Check.due("of another chain", x.leftAnew(1), 0);
        x.die(2, 60);
        Check.due("less PAID OUT and LOST", x.leftAnew(2), 0);
    }

    private static void booked() {
        Works x = new Works();
        x.law(0, 6, 0, 0);
        x.sell(0, 0, 100);
        x.rate(0, 100);
        int[] want = {0, 16, 33, 50, 66, 83, 0};
        for (int month = 0; month <= 6; month++) {
            Check.due("booked in MONTH " + month, x.booked(0), want[month]);
            if (month < 6) {
                x.pass();
            }
        }
    }

    private static void bookedLots() {
        Works x = new Works();
        x.law(0, 10, 0, 0);
        x.law(1, 0, 0, 0);
        x.sell(0, 0, 19);
        x.load(0, 19, false);
        x.load(0, 100, true);
        x.sell(0, 1, 500);
        x.sell(1, 0, 500);
        Steps.pass(x, 5);
        Check.due("by RATE 0", x.booked(0), 0);
        x.rate(0, 50);
        Check.due("4.75 and 4.75, each rounded down", x.booked(0), 8);
        Check.due("of the other chain by its RATE", x.booked(1), 0);
        x.load(0, 500, false);
        Check.due("a lot that begins now adds nothing", x.booked(0), 8);
        x.pay(0, 100);
        Check.due("the gift was spent alone", x.booked(0), 8);
        x.pay(0, 19);
        Check.due("what is LEFT counts", x.booked(0), 4);
        x.join(1, 0);
        Check.due("a joined lot keeps BEGIN and END", x.booked(0), 4);
        x.die(0, 9999);
        Check.due("nothing LEFT, nothing booked", x.booked(0), 0);
    }

    private static void questionsChangeNothing() {
        Works x = new Works();
        x.campaign(true, 30, 20);
        x.campaign(false, 7, 0);
        x.sell(0, 0, 300);
        x.load(0, 100, true);
        x.pay(0, 150);
        Steps.pass(x, 3);
        x.convert(0, 5);
        String once = Snapshot.of(x.asked());
        Check.alike("all asked twice", Snapshot.of(x.asked()), once);
    }
}
