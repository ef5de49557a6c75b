/** Every call on an object without anything in it, and on one that holds as much as it can. */
final class EmptyAndFullTest {
    private EmptyAndFullTest() {
    }

    public static void main(String[] args) {
        emptyAnswers();
        emptyPrices();
        emptyHasNoNumbers();
        emptyLives();
        fullIsFull();
        fullRefusesMore();
        fullTakesTheRest();
        fullAnswersAtTheLastPlaces();
        fullPasses();
        fullDies();
        fullToTheLastMonth();
        Check.end();
    }

    /**
     * 12 CARDS, 3 of each CHAIN, with 5 LOTS each, 6 CAMPAIGNS and 40 PAYMENTS, in MONTH 6: the gifts of CARDS have
     * EXPIRED, and each CARD has READY MARKS.
     */
    static Works full() {
        Works x = new Works();
        for (int card = 0; card < 12; card++) {
            x.sell(card / 3, card % 3, 400);
            x.load(card, 60, true);
            for (int lot = 0; lot < 3; lot++) {
                x.load(card, 20, false);
            }
        }
        for (int i = 0; i < 6; i++) {
            x.campaign(i % 2 == 0, 5 + i, 400);
        }
        for (int payment = 0; payment < 40; payment++) {
            x.pay(payment % 12, 60);
        }
        Steps.pass(x, 6);
        return x;
    }

    // ---- without anything

    private static void emptyAnswers() {
        Check.sentence(1, "Begins in the MONTH 0, without CARDS, LOTS, CAMPAIGNS and PAYMENTS.");
        Works x = new Works();
        Check.due("month", x.month(), 0);
        for (int chain = 0; chain <= 3; chain++) {
            for (int what = 0; what <= 8; what++) {
                Check.due("ofChain(" + chain + ", " + what + ")", x.ofChain(chain, what), 0);
            }
            for (int land = 0; land <= 2; land++) {
                Check.due("owed", x.owed(land, chain), 0);
            }
            Check.due("leftAnew", x.leftAnew(chain), 0);
            Check.due("booked", x.booked(chain), 0);
            Check.due("rate", x.rate(chain, 100), 0);
            Check.due("booked by a RATE", x.booked(chain), 0);
        }
        for (int land = 0; land <= 2; land++) {
            Check.due("law", x.law(land, 6, 9, 100), 24);
        }
    }

    private static void emptyPrices() {
        Check.sentence(1, "Begins in the MONTH 0, without CARDS, LOTS, CAMPAIGNS and PAYMENTS.");
        Works x = new Works();
        for (int price : new int[] {1, 2, 499, 500, 999, 1000}) {
            Check.due("best", x.best(price), price);
            Check.due("bestAnew", x.bestAnew(price), price);
            Check.due("fewest", x.fewest(price), 0);
        }
    }

    private static void emptyHasNoNumbers() {
        Check.sentence(1, "Begins in the MONTH 0, without CARDS, LOTS, CAMPAIGNS and PAYMENTS.");
        for (int no : new int[] {0, 1, 5, 11, 39, 59}) {
            Works x = new Works();
            Check.noSuch("load", x, () -> x.load(no, 1, true));
            Check.noSuch("bar", x, () -> x.bar(no, no + 1, true));
            Check.noSuch("pay", x, () -> x.pay(no, 1));
            Check.noSuch("whyNot", x, () -> x.whyNot(no, 1));
            Check.noSuch("giveBack", x, () -> x.giveBack(no, 1));
            Check.noSuch("convert", x, () -> x.convert(no, 5));
            Check.noSuch("join", x, () -> x.join(no, no + 1));
            Check.noSuch("attempt", x, () -> x.attempt(no, 0));
            Check.noSuch("free", x, () -> x.free(no));
            Check.noSuch("ofCard", x, () -> x.ofCard(no, 0));
            Check.noSuch("ofLot", x, () -> x.ofLot(no, 0));
            Check.noSuch("orderAt", x, () -> x.orderAt(no, 0));
            Check.noSuch("ofPayment", x, () -> x.ofPayment(no, 0));
            Check.noSuch("taken", x, () -> x.taken(no, 0));
        }
    }

    private static void emptyLives() {
        Works x = new Works();
        for (int chain = 0; chain <= 3; chain++) {
            Check.due("die", x.die(chain, 9999 - chain), 9999 - chain);
        }
        for (int month = 1; month <= 240; month++) {
            Check.due("pass", x.pass(), month);
        }
        Check.notNow("pass", x, x::pass);
        for (int chain = 0; chain <= 3; chain++) {
            for (int what = 0; what <= 7; what++) {
                Check.due("ofChain(" + chain + ", " + what + ")", x.ofChain(chain, what), 0);
            }
            Check.due("DEAD", x.ofChain(chain, 8), 1);
        }
    }

    // ---- as much as it can hold

    private static void fullIsFull() {
        Works x = full();
        for (int card = 0; card < 12; card++) {
            int payments = card < 4 ? 4 : 3;
            Check.due("BALANCE of card " + card, x.ofCard(card, 1), 400 + 60 + 60 - 60 * payments);
            Check.due("READY MARKS of card " + card, x.ofCard(card, 5), 6 * payments);
        }
    }

    private static void fullRefusesMore() {
        Works x = full();
        for (int chain = 0; chain <= 3; chain++) {
            int of = chain;
            Check.notNow("a 13th CARD", x, () -> x.sell(of, 0, 1));
        }
        for (int card = 0; card < 12; card++) {
            int of = card;
            Check.notNow("a 61st LOT, BOUGHT", x, () -> x.load(of, 500, false));
            Check.notNow("a 61st LOT, GRANTED", x, () -> x.load(of, 500, true));
            Check.notNow("a 61st LOT, CONVERTED", x, () -> x.convert(of, 5));
            Check.notNow("a 61st LOT, RETURNED", x, () -> x.giveBack(of, 60));
            Check.notNow("a 41st PAYMENT", x, () -> x.pay(of, 1));
            Check.due("why not", x.whyNot(of, 1), 5);
        }
        Check.notNow("a seventh CAMPAIGN in hundredths", x, () -> x.campaign(true, 1, 0));
        Check.notNow("a seventh CAMPAIGN", x, () -> x.campaign(false, 1, 0));
    }

    private static void fullTakesTheRest() {
        Works x = full();
        Check.due("law", x.law(0, 0, 0, 0), 24);
        Check.due("rate", x.rate(3, 100), 0);
        Check.due("bar", x.bar(4, 5, true), false);
        // Payments 0 to 11 took gifts, the later ones the first coins BOUGHT.
        Check.due("giveBack to a LOT that has not EXPIRED", x.giveBack(39, 60), 0);
        Check.due("join", x.join(10, 11), x.ofCard(10, 1));
        Check.notNow("join frees no CARD", x, () -> x.sell(0, 0, 1));
        Check.due("attempt", x.attempt(10, x.ofCard(10, 4)), true);
        Check.due("free", x.free(10), false);
        Check.due("pass", x.pass(), 7);
    }

    private static void fullAnswersAtTheLastPlaces() {
        Works x = full();
        Check.due("the last CARD", x.ofCard(11, 7), 24);
        Check.noSuch("a card behind it", x, () -> x.ofCard(12, 7));
        Check.due("the last LOT's CARD", x.ofLot(59, 0), 11);
        Check.due("the last LOT's LEFT", x.ofLot(59, 2), 20);
        Check.noSuch("a lot behind it", x, () -> x.ofLot(60, 0));
        Check.due("the last PAYMENT's CARD", x.ofPayment(39, 0), 3);
        Check.due("the last PAYMENT's NET", x.ofPayment(39, 2), 60);
        Check.noSuch("a payment behind it", x, () -> x.ofPayment(40, 0));
        Check.due("taken by the last PAYMENT", x.taken(39, 15), 60);
        Check.due("taken by the last PAYMENT from the last LOT", x.taken(39, 59), 0);
        Check.noSuch("taken behind it", x, () -> x.taken(40, 59));
        Check.noSuch("taken from a lot behind it", x, () -> x.taken(39, 60));
        Check.due("the last CAMPAIGNS", x.bar(5, 4, false), false);
        Check.noSuch("a campaign behind it", x, () -> x.bar(5, 6, false));
        Check.due("the last place of an ORDER", x.orderAt(11, 3), 59);
        Check.due("a place behind it", x.orderAt(11, 4), -1);
    }

    private static void fullPasses() {
        Works x = full();
        Steps.pass(x, 12);
        for (int card = 0; card < 12; card++) {
            int payments = card < 4 ? 4 : 3;
            // From MONTH 12 to 18 there are 7 FEES of 2.
            Check.due("BALANCE", x.ofCard(card, 1), 520 - 60 * payments - 14);
        }
        Steps.pass(x, 6);
        for (int chain = 0; chain <= 3; chain++) {
            Check.due("all have ended", x.ofChain(chain, 2), 0);
            Check.due("by accounts", x.leftAnew(chain), 0);
        }
        Check.notNow("LOTS that have ended count", x, () -> x.load(0, 1, true));
    }

    private static void fullDies() {
        Works x = full();
        int[] left = new int[4];
        for (int chain = 0; chain <= 3; chain++) {
            left[chain] = x.ofChain(chain, 2);
            Check.due("die", x.die(chain, left[chain] + 1), 1);
        }
        for (int chain = 0; chain <= 3; chain++) {
            Check.due("PAID OUT", x.ofChain(chain, 6), left[chain]);
            Check.due("LOST", x.ofChain(chain, 7), 0);
        }
        Check.notNow("giveBack to a LOT that has not EXPIRED", x, () -> x.giveBack(39, 1));
    }

    private static void fullToTheLastMonth() {
        Works x = full();
        Steps.pass(x, 234);
        Check.due("month", x.month(), 240);
        Check.notNow("one more", x, x::pass);
        for (int chain = 0; chain <= 3; chain++) {
            Check.due("accounts", x.leftAnew(chain), x.ofChain(chain, 2));
        }
        for (int card = 0; card < 12; card++) {
            Check.due("MARKS stay", x.ofCard(card, 5), card < 4 ? 24 : 18);
        }
    }
}
