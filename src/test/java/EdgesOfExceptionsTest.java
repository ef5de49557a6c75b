/** What the document says of exceptions: which one is thrown, which one if several apply, and that nothing changes. */
final class EdgesOfExceptionsTest {
    private EdgesOfExceptionsTest() {
    }

    public static void main(String[] args) {
        noSuchNumber();
        noSuchLastNumber();
        outOfRange();
        notAsThingsStand();
        numberAheadOfRange();
        numberAheadOfState();
        rangeAheadOfState();
        rangeAheadOfStateForCoins();
        sameAheadOfState();
        refusedCallsChangeNothing();
        refusedCallsOfAFullObjectChangeNothing();
        refusedCallsLeaveNoTraceInLaterOnes();
        Check.end();
    }

    /** Cards 0 OPEN, 1 CLOSED, 2 FROZEN, 3 of the DEAD chain 1, 4 of chain 2; some of them have READY MARKS. */
    private static Works something() {
        Works x = new Works();
        x.law(0, 0, 1, 50);
        x.law(1, 6, 2, 30);
        x.rate(0, 40);
        x.campaign(true, 10, 50);
        x.campaign(false, 3, 0);
        x.bar(0, 1, true);
        x.sell(0, 0, 300);
        x.sell(0, 1, 200);
        x.sell(0, 0, 100);
        x.sell(1, 1, 90);
        x.sell(2, 2, 80);
        x.load(0, 60, true);
        x.pay(0, 180);
        x.pay(1, 100);
        x.pay(2, 90);
        x.pay(3, 60);
        Steps.pass(x, 6);
        x.convert(0, 5);
        x.giveBack(1, 30);
        x.join(0, 1);
        x.attempt(0, 0);
        x.attempt(4, 0);
        x.attempt(4, 0);
        Steps.freeze(x, 2);
        x.die(1, 25);
        return x;
    }

    private static final int[] NONE_OF_THEM = {-1, 1000, Integer.MIN_VALUE, Integer.MAX_VALUE};

    private static void noSuchNumber() {
        Check.sentence(0, "IndexOutOfBoundsException: there is no such LAND, CHAIN, CARD, LOT, CAMPAIGN or PAYMENT.");
        for (int no : NONE_OF_THEM) {
            Works x = something();
            Check.noSuch("law " + no, x, () -> x.law(no, 24, 2, 50));
            Check.noSuch("rate " + no, x, () -> x.rate(no, 5));
            Check.noSuch("sell " + no, x, () -> x.sell(no, 0, 1));
            Check.noSuch("sell in " + no, x, () -> x.sell(0, no, 1));
            Check.noSuch("load " + no, x, () -> x.load(no, 1, true));
            Check.noSuch("bar " + no, x, () -> x.bar(no, 0, true));
            Check.noSuch("bar other " + no, x, () -> x.bar(0, no, true));
            Check.noSuch("pay " + no, x, () -> x.pay(no, 1));
            Check.noSuch("whyNot " + no, x, () -> x.whyNot(no, 1));
            Check.noSuch("giveBack " + no, x, () -> x.giveBack(no, 1));
            Check.noSuch("convert " + no, x, () -> x.convert(no, 5));
            Check.noSuch("join " + no, x, () -> x.join(no, 0));
            Check.noSuch("join other " + no, x, () -> x.join(0, no));
            Check.noSuch("attempt " + no, x, () -> x.attempt(no, 0));
            Check.noSuch("free " + no, x, () -> x.free(no));
            Check.noSuch("die " + no, x, () -> x.die(no, 0));
            Check.noSuch("ofCard " + no, x, () -> x.ofCard(no, 0));
            Check.noSuch("ofLot " + no, x, () -> x.ofLot(no, 0));
            Check.noSuch("orderAt " + no, x, () -> x.orderAt(no, 0));
            Check.noSuch("ofPayment " + no, x, () -> x.ofPayment(no, 0));
            Check.noSuch("taken " + no, x, () -> x.taken(no, 0));
            Check.noSuch("taken from " + no, x, () -> x.taken(0, no));
            Check.noSuch("ofChain " + no, x, () -> x.ofChain(no, 0));
            Check.noSuch("owed " + no, x, () -> x.owed(no, 0));
            Check.noSuch("owed of " + no, x, () -> x.owed(0, no));
            Check.noSuch("leftAnew " + no, x, () -> x.leftAnew(no));
            Check.noSuch("booked " + no, x, () -> x.booked(no));
        }
    }

    /** The numbers just behind the last ones: 5 CARDS, 8 LOTS, 2 CAMPAIGNS, 4 PAYMENTS, 3 LANDS, 4 CHAINS. */
    private static void noSuchLastNumber() {
        Check.sentence(0, "IndexOutOfBoundsException: there is no such LAND, CHAIN, CARD, LOT, CAMPAIGN or PAYMENT.");
        Works x = something();
        Check.takes("card 4", () -> x.ofCard(4, 0));
        Check.noSuch("card 5", x, () -> x.ofCard(5, 0));
        Check.takes("lot 7", () -> x.ofLot(7, 0));
        Check.noSuch("lot 8", x, () -> x.ofLot(8, 0));
        Check.takes("payment 3", () -> x.ofPayment(3, 0));
        Check.noSuch("payment 4", x, () -> x.ofPayment(4, 0));
        Check.takes("campaign 1", () -> x.bar(1, 0, true));
        Check.noSuch("campaign 2", x, () -> x.bar(2, 0, true));
        Check.takes("land 2 and chain 3", () -> x.owed(2, 3));
        Check.noSuch("land 3", x, () -> x.owed(3, 3));
        Check.noSuch("chain 4", x, () -> x.owed(2, 4));
    }

    private static void outOfRange() {
        Check.sentence(0, "IllegalArgumentException: another argument is out of its range.");
        for (int far : new int[] {-1000000, 1000000, Integer.MIN_VALUE, Integer.MAX_VALUE}) {
            Works x = something();
            Check.outOfRange("life " + far, x, () -> x.law(0, far, 2, 50));
            Check.outOfRange("fee " + far, x, () -> x.law(0, 24, far, 50));
            Check.outOfRange("share " + far, x, () -> x.law(0, 24, 2, far));
            Check.outOfRange("rate " + far, x, () -> x.rate(0, far));
            Check.outOfRange("sell " + far, x, () -> x.sell(0, 0, far));
            Check.outOfRange("load " + far, x, () -> x.load(0, far, false));
            Check.outOfRange("value in hundredths " + far, x, () -> x.campaign(true, far, 0));
            Check.outOfRange("value " + far, x, () -> x.campaign(false, far, 0));
            Check.outOfRange("least " + far, x, () -> x.campaign(false, 1, far));
            Check.outOfRange("best " + far, x, () -> x.best(far));
            Check.outOfRange("bestAnew " + far, x, () -> x.bestAnew(far));
            Check.outOfRange("fewest " + far, x, () -> x.fewest(far));
            Check.outOfRange("pay " + far, x, () -> x.pay(0, far));
            Check.outOfRange("whyNot " + far, x, () -> x.whyNot(0, far));
            Check.outOfRange("giveBack " + far, x, () -> x.giveBack(0, far));
            Check.outOfRange("convert " + far, x, () -> x.convert(0, far));
            Check.outOfRange("attempt " + far, x, () -> x.attempt(0, far));
            Check.outOfRange("die " + far, x, () -> x.die(0, far));
            Check.outOfRange("ofCard " + far, x, () -> x.ofCard(0, far));
            Check.outOfRange("ofLot " + far, x, () -> x.ofLot(0, far));
            Check.outOfRange("ofPayment " + far, x, () -> x.ofPayment(0, far));
            Check.outOfRange("ofChain " + far, x, () -> x.ofChain(0, far));
        }
    }

    private static void notAsThingsStand() {
        Check.sentence(0, "IllegalStateException: as the method tells.");
        Works x = something();
        Check.notNow("sell of the DEAD", x, () -> x.sell(1, 0, 1));
        Check.notNow("load of the CLOSED", x, () -> x.load(1, 1, true));
        Check.notNow("pay with the FROZEN", x, () -> x.pay(2, 1));
        Check.notNow("giveBack of the DEAD", x, () -> x.giveBack(3, 1));
        Check.notNow("convert for the FROZEN", x, () -> x.convert(2, 5));
        Check.notNow("join of the FROZEN", x, () -> x.join(0, 2));
        Check.notNow("attempt at the CLOSED", x, () -> x.attempt(1, 0));
        Check.notNow("die again", x, () -> x.die(1, 0));
    }

    // ---- which one if several apply

    private static final String SEVERAL =
        "If several apply, the one that is named first in the throws clause is thrown.";

    private static void numberAheadOfRange() {
        Check.sentence(0, SEVERAL);
        for (int no : NONE_OF_THEM) {
            Works x = something();
            Check.noSuch("law " + no, x, () -> x.law(no, 5, 10, 101));
            Check.noSuch("rate " + no, x, () -> x.rate(no, 101));
            Check.noSuch("sell " + no, x, () -> x.sell(no, 0, 0));
            Check.noSuch("sell in " + no, x, () -> x.sell(0, no, 501));
            Check.noSuch("load " + no, x, () -> x.load(no, 0, false));
            Check.noSuch("bar of the same " + no, x, () -> x.bar(no, no, true));
            Check.noSuch("pay " + no, x, () -> x.pay(no, 0));
            Check.noSuch("whyNot " + no, x, () -> x.whyNot(no, 1001));
            Check.noSuch("giveBack " + no, x, () -> x.giveBack(no, 0));
            Check.noSuch("convert " + no, x, () -> x.convert(no, 4));
            Check.noSuch("join of the same " + no, x, () -> x.join(no, no));
            Check.noSuch("attempt " + no, x, () -> x.attempt(no, -1));
            Check.noSuch("die " + no, x, () -> x.die(no, 10000));
            Check.noSuch("ofCard " + no, x, () -> x.ofCard(no, 8));
            Check.noSuch("ofLot " + no, x, () -> x.ofLot(no, -1));
            Check.noSuch("ofPayment " + no, x, () -> x.ofPayment(no, 5));
            Check.noSuch("ofChain " + no, x, () -> x.ofChain(no, 9));
        }
    }

    private static void numberAheadOfState() {
        Check.sentence(0, SEVERAL);
        Works x = something();
        Check.noSuch("a DEAD chain in no land", x, () -> x.sell(1, 3, 1));
        Check.noSuch("a DEAD chain in no land, and no coins", x, () -> x.sell(1, -1, 0));
        Check.noSuch("no card to a CLOSED one", x, () -> x.join(1, 5));
        Check.noSuch("a CLOSED one to no card", x, () -> x.join(5, 1));
        Check.noSuch("no card to one of a DEAD chain", x, () -> x.join(3, -1));
        Works full = EmptyAndFullTest.full();
        Check.noSuch("no chain, with 12 CARDS", full, () -> full.sell(4, 0, 1));
        Check.noSuch("no land, with 12 CARDS", full, () -> full.sell(0, 3, 0));
        Check.noSuch("no card, with 60 LOTS", full, () -> full.load(12, 1, true));
        Check.noSuch("no card, with 40 PAYMENTS", full, () -> full.pay(12, 1));
        Check.noSuch("no card, for marks with 60 LOTS", full, () -> full.convert(12, 5));
        Check.noSuch("no payment, with 60 LOTS", full, () -> full.giveBack(40, 1));
        Check.noSuch("no campaign, with 6", full, () -> full.bar(6, 6, true));
    }

    private static void rangeAheadOfState() {
        Check.sentence(0, SEVERAL);
        Works x = something();
        for (int card = 1; card <= 3; card++) {
            int of = card;
            Check.outOfRange("pay 0", x, () -> x.pay(of, 0));
            Check.outOfRange("pay 1001", x, () -> x.pay(of, 1001));
            Check.outOfRange("convert 4", x, () -> x.convert(of, 4));
            Check.outOfRange("convert 6", x, () -> x.convert(of, 6));
            Check.outOfRange("convert 499", x, () -> x.convert(of, 499));
            Check.outOfRange("convert 505", x, () -> x.convert(of, 505));
            Check.outOfRange("load 0", x, () -> x.load(of, 0, false));
            Check.outOfRange("load 501", x, () -> x.load(of, 501, true));
            Check.outOfRange("attempt -1", x, () -> x.attempt(of, -1));
            Check.outOfRange("attempt 100000", x, () -> x.attempt(of, 100000));
        }
        Check.outOfRange("sell 0 of the DEAD", x, () -> x.sell(1, 0, 0));
        Check.outOfRange("sell 501 of the DEAD", x, () -> x.sell(1, 0, 501));
        Check.outOfRange("die -1 again", x, () -> x.die(1, -1));
        Check.outOfRange("die 10000 again", x, () -> x.die(1, 10000));
        Check.outOfRange("giveBack 0 of the DEAD", x, () -> x.giveBack(3, 0));
        Check.outOfRange("giveBack more than the NET of the DEAD", x, () -> x.giveBack(3, 55));
        Check.outOfRange("convert 4 where there are none", x, () -> x.convert(4, 4));
        Check.outOfRange("convert 6 where there are none", x, () -> x.convert(4, 6));
        Check.outOfRange("convert 505 where there are none", x, () -> x.convert(4, 505));
    }

    private static void rangeAheadOfStateForCoins() {
        Check.sentence(0, SEVERAL);
        Works full = EmptyAndFullTest.full();
        Check.outOfRange("sell 0, with 12 CARDS", full, () -> full.sell(0, 0, 0));
        Check.outOfRange("sell 501, with 12 CARDS", full, () -> full.sell(0, 0, 501));
        Check.outOfRange("load 0, with 60 LOTS", full, () -> full.load(0, 0, true));
        Check.outOfRange("load 501, with 60 LOTS", full, () -> full.load(0, 501, false));
        Check.outOfRange("hundredths 91, with 6 CAMPAIGNS", full, () -> full.campaign(true, 91, 0));
        Check.outOfRange("least 501, with 6 CAMPAIGNS", full, () -> full.campaign(false, 1, 501));
        Check.outOfRange("pay 0, with 40 PAYMENTS", full, () -> full.pay(0, 0));
        Check.outOfRange("pay 1001, with 40 PAYMENTS", full, () -> full.pay(0, 1001));
        Check.outOfRange("convert 4, with 60 LOTS", full, () -> full.convert(0, 4));
        Check.outOfRange("convert 6, with 60 LOTS", full, () -> full.convert(0, 6));
        int net = full.ofPayment(0, 2);
        Check.outOfRange("giveBack 0, with 60 LOTS", full, () -> full.giveBack(0, 0));
        Check.outOfRange("giveBack more than the NET, with 60 LOTS", full, () -> full.giveBack(0, net + 1));
    }

    private static void sameAheadOfState() {
        Check.sentence(0, SEVERAL);
        Works x = something();
        for (int card = 0; card <= 4; card++) {
            int same = card;
            Check.outOfRange("join of card " + same + " to itself", x, () -> x.join(same, same));
        }
    }

    // ---- nothing changes

    private static final String NOTHING = "A call that throws an exception changes nothing.";

    private static void refusedCallsChangeNothing() {
        Check.sentence(0, NOTHING);
        Works x = something();
        Check.outOfRange("law with a SHARE out of range", x, () -> x.law(0, 60, 9, 101));
        Check.outOfRange("law with a FEE out of range", x, () -> x.law(1, 60, 10, 100));
        Check.outOfRange("law with a LIFE out of range", x, () -> x.law(2, 61, 9, 100));
        Check.noSuch("bar with none", x, () -> x.bar(0, 2, false));
        Check.outOfRange("bar of the same", x, () -> x.bar(0, 0, true));
        Check.notNow("a BEST price above the BALANCE", x, () -> x.pay(4, 1000));
        Check.notNow("giveBack of the DEAD", x, () -> x.giveBack(3, 54));
        Check.notNow("more MARKS than there are", x, () -> x.convert(0, 500));
        Check.notNow("join of unlike CHAINS", x, () -> x.join(0, 4));
        Check.notNow("join to the FROZEN", x, () -> x.join(2, 0));
        Check.outOfRange("a CODE out of range", x, () -> x.attempt(4, 100000));
        Check.outOfRange("an ESTATE out of range", x, () -> x.die(0, 10000));
    }

    private static void refusedCallsOfAFullObjectChangeNothing() {
        Check.sentence(0, NOTHING);
        Works x = EmptyAndFullTest.full();
        Check.notNow("sell", x, () -> x.sell(0, 0, 1));
        Check.notNow("load", x, () -> x.load(0, 1, false));
        Check.notNow("campaign", x, () -> x.campaign(false, 1, 0));
        Check.notNow("pay", x, () -> x.pay(0, 1));
        Check.notNow("giveBack into a 61st LOT", x, () -> x.giveBack(0, 1));
        Check.notNow("convert into a 61st LOT", x, () -> x.convert(0, 5));
    }

    /** Refused calls between others: all answers are those of an object without them. */
    private static void refusedCallsLeaveNoTraceInLaterOnes() {
        Check.sentence(0, NOTHING);
        Works x = new Works();
        Works y = new Works();
        Check.takes("all calls", () -> {
            for (int step = 0; step < 10; step++) {
                oneStep(x, step);
                refused(y);
                oneStep(y, step);
            }
        });
        Check.alike("all that there is", Snapshot.of(y.asked()), Snapshot.of(x.asked()));
    }

    private static void oneStep(Works x, int step) {
        x.sell(step % 2, step % 3, 100 + step);
        x.load(step, 7, step % 2 == 0);
        x.pay(step, 30 + step);
        x.pass();
        x.giveBack(step, 2);
    }

    private static void refused(Works x) {
        Afterwards.outcome(() -> x.law(0, 60, 9, 101));
        Afterwards.outcome(() -> x.rate(0, 101));
        Afterwards.outcome(() -> x.sell(0, 0, 501));
        Afterwards.outcome(() -> x.load(0, 501, true));
        Afterwards.outcome(() -> x.campaign(false, 200, 501));
        Afterwards.outcome(() -> x.pay(0, 1000));
        Afterwards.outcome(() -> x.giveBack(0, 1000));
        Afterwards.outcome(() -> x.convert(0, 500));
        Afterwards.outcome(() -> x.join(0, 1));
        Afterwards.outcome(() -> x.attempt(0, -1));
        Afterwards.outcome(() -> x.die(0, 10000));
    }
}
