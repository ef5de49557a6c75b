/** The ends of what the document says of LANDS, CHAINS, CARDS and LOTS, and in promises 1 to 5. */
final class EdgesOfCardsTest {
    private EdgesOfCardsTest() {
    }

    public static void main(String[] args) {
        lands();
        chains();
        cards();
        cardsKeepTheirLaw();
        howACardIs();
        use();
        whatIsNoUse();
        useIsTheLatest();
        lots();
        sixtyLotsOfAllCards();
        endOfBought();
        endsOfTheOtherOrigins();
        beginOfALot();
        expired();
        neverExpired();
        balance();
        orderByEnd();
        orderWithoutEnd();
        orderByOrigin();
        orderByNumber();
        orderOfWhatIsLeft();
        newObject();
        lawIsForCardsFromNowOn();
        life();
        fee();
        share();
        lifeBefore();
        noSuchLand();
        lawOutOfRange();
        rateOfAChain();
        rate();
        rateBefore();
        noSuchChainForARate();
        rateOutOfRange();
        sellGivesABoughtLot();
        sellCoins();
        sellAnswersTheNumber();
        sellWithoutChainOrLand();
        sellOutOfRange();
        sellOfTheDead();
        sellOfTheThirteenth();
        sellWithSixtyLots();
        loadFrozenOrNot();
        loadCoins();
        loadGrantedOrBought();
        loadAnswersTheBalance();
        loadWithoutCard();
        loadOutOfRange();
        loadOfTheClosed();
        loadOfTheDead();
        loadWithSixtyLots();
        Check.end();
    }

    // ---- LANDS, CHAINS

    private static void lands() {
        Check.sentence(0, "There are the LANDS 0 to 2; each has a LIFE, 0 or 6 to 60, a FEE, 0 to 9, and a SHARE,"
            + " 0 to 100; at first 24, 2 and 50.");
        for (int land = 0; land <= 2; land++) {
            Works x = new Works();
            x.sell(0, land, 101);
            Check.due("LIFE at first", x.ofCard(0, 7), 24);
            Check.due("END by it", x.ofLot(0, 3), 24);
            Steps.pass(x, 12);
            Check.due("FEE at first", x.ofChain(0, 4), 2);
            Steps.pass(x, 11);
            Check.due("12 FEES", x.ofCard(0, 1), 77);
            x.pass();
            Check.due("SHARE at first: half of 77, rounded down", x.owed(land, 0), 38);
            Check.due("the rest, and 12 FEES", x.ofChain(0, 4), 24 + 39);
            Check.due("the land's LIFE at first", x.law(land, 0, 0, 0), 24);
        }
    }

    private static void chains() {
        Check.sentence(0, "There are the CHAINS 0 to 3; each lives, as at first, or is DEAD for good; each has a RATE,"
            + " 0 to 100, 0 at first.");
        for (int chain = 0; chain <= 3; chain++) {
            Works x = new Works();
            int of = chain;
            Check.due("lives at first", x.ofChain(chain, 8), 0);
            Check.due("RATE at first", x.rate(chain, 100), 0);
            Check.due("is sold of", x.sell(chain, 0, 1), 0);
            x.die(chain, 0);
            Check.due("DEAD", x.ofChain(chain, 8), 1);
            for (int other = 0; other <= 3; other++) {
                Check.due("DEAD is this one alone", x.ofChain(other, 8), other == chain ? 1 : 0);
            }
            Steps.pass(x, 13);
            x.rate(chain, 5);
            Check.due("DEAD for good", x.ofChain(chain, 8), 1);
            Check.notNow("sell for good", x, () -> x.sell(of, 0, 1));
        }
    }

    // ---- CARDS

    private static void cards() {
        Check.sentence(0, "CARDS are numbered from 0 as they are sold, at most 12.");
        Works x = new Works();
        for (int card = 0; card < 12; card++) {
            int next = card;
            Check.noSuch("ofCard of the next one", x, () -> x.ofCard(next, 0));
            Check.due("sell", x.sell(3 - card % 4, card % 3, 1), card);
            Check.due("it is there", x.ofCard(card, 1), 1);
        }
        Check.notNow("a 13th", x, () -> x.sell(0, 0, 1));
        Check.noSuch("ofCard of the 13th", x, () -> x.ofCard(12, 0));
        x.join(0, 4);
        Check.notNow("a 13th where one of 12 is CLOSED", x, () -> x.sell(0, 0, 1));
    }

    private static void cardsKeepTheirLaw() {
        Check.sentence(0, "A CARD is of a CHAIN and a LAND, and keeps for good the LIFE, FEE and SHARE that the LAND has"
            + " as it is sold.");
        Works x = new Works();
        x.law(1, 60, 0, 0);
        x.sell(0, 1, 100);
        x.law(1, 6, 9, 100);
        x.sell(1, 1, 100);
        x.law(1, 60, 0, 0);
        x.load(0, 1, false);
        x.load(1, 1, false);
        Check.due("LIFE kept", x.ofCard(0, 7), 60);
        Check.due("LIFE kept by the other", x.ofCard(1, 7), 6);
        Check.due("END of what is loaded later", x.ofLot(2, 3), 60);
        Check.due("END of what is loaded later on the other", x.ofLot(3, 3), 6);
        Steps.pass(x, 6);
        Check.due("SHARE kept: 100 hundredths", x.owed(1, 1), 101);
        x.law(1, 6, 9, 100);
        x.load(1, 50, true);
        Steps.pass(x, 54);
        Check.due("no FEE in 60 MONTHS, and all of it INCOME by SHARE 0", x.ofChain(0, 4), 101);
        Check.due("nothing OWED by SHARE 0", x.owed(1, 0), 0);
        Works y = new Works();
        y.law(1, 0, 9, 100);
        y.sell(0, 1, 100);
        y.law(1, 0, 0, 0);
        Steps.pass(y, 12);
        Check.due("FEE kept", y.ofCard(0, 1), 91);
    }

    private static void howACardIs() {
        Check.sentence(0, "It is OPEN, as at first, FROZEN or CLOSED.");
        Works x = new Works();
        x.sell(0, 0, 1);
        x.sell(0, 0, 1);
        Check.due("OPEN at first", x.ofCard(0, 0), 0);
        Steps.freeze(x, 0);
        Check.due("FROZEN", x.ofCard(0, 0), 1);
        Check.due("the other stays OPEN", x.ofCard(1, 0), 0);
        x.free(0);
        Check.due("OPEN again", x.ofCard(0, 0), 0);
        x.join(0, 1);
        Check.due("CLOSED", x.ofCard(1, 0), 2);
        Check.due("the one stays OPEN", x.ofCard(0, 0), 0);
    }

    private static final String USE = "Its USE is the MONTH in which it was sold, loaded, paid with, converted for, or"
        + " had another one joined to it, whichever was the latest.";

    private static void use() {
        Check.sentence(0, USE);
        Works x = new Works();
        x.pass();
        x.sell(0, 0, 500);
        x.sell(0, 0, 1);
        Check.due("sold", x.ofCard(0, 2), 1);
        x.pass();
        x.load(0, 1, false);
        Check.due("loaded, BOUGHT", x.ofCard(0, 2), 2);
        x.pass();
        x.load(0, 1, true);
        Check.due("loaded, GRANTED", x.ofCard(0, 2), 3);
        x.pass();
        x.pay(0, 50);
        Check.due("paid with", x.ofCard(0, 2), 4);
        Steps.pass(x, 2);
        x.convert(0, 5);
        Check.due("converted for", x.ofCard(0, 2), 6);
        x.pass();
        x.join(0, 1);
        Check.due("had another one joined to it", x.ofCard(0, 2), 7);
        Check.due("the other one had none joined to it", x.ofCard(1, 2), 1);
        x.pass();
        x.campaign(false, 200, 0);
        x.pay(0, 1);
        Check.due("paid with, for a BEST price of 0", x.ofCard(0, 2), 8);
    }

    private static void whatIsNoUse() {
        Check.sentence(0, USE);
        Works x = new Works();
        x.law(0, 0, 9, 0);
        x.sell(0, 0, 500);
        x.sell(1, 0, 500);
        x.pay(0, 50);
        x.pass();
        Check.due("a MONTH that comes", x.ofCard(0, 2), 0);
        x.giveBack(0, 1);
        Check.due("giving back", x.ofCard(0, 2), 0);
        x.attempt(0, 27182);
        Check.due("a try of the right CODE", x.ofCard(0, 2), 0);
        Steps.freeze(x, 0);
        Check.due("tries of wrong ones", x.ofCard(0, 2), 0);
        x.free(0);
        Check.due("freeing", x.ofCard(0, 2), 0);
        x.whyNot(0, 5);
        Check.due("a question", x.ofCard(0, 2), 0);
        Check.notNow("a payment that is refused", x, () -> x.pay(0, 1000));
        Check.notNow("a refused conversion", x, () -> x.convert(0, 5));
        Check.notNow("a refused joining", x, () -> x.join(0, 1));
        x.load(1, 1, true);
        Check.due("what another CARD is used for", x.ofCard(0, 2), 0);
        Steps.pass(x, 11);
        Check.due("a FEE", x.ofCard(0, 2), 0);
        x.die(0, 500);
        Check.due("a death", x.ofCard(0, 2), 0);
    }

    private static void useIsTheLatest() {
        Check.sentence(0, USE);
        Works x = new Works();
        x.sell(0, 0, 100);
        Steps.pass(x, 5);
        x.sell(0, 0, 100);
        x.join(1, 0);
        Check.due("of the one", x.ofCard(1, 2), 5);
        Check.due("of the other", x.ofCard(0, 2), 0);
        Works y = new Works();
        y.sell(0, 0, 100);
        Steps.pass(y, 5);
        y.sell(0, 0, 100);
        Steps.pass(y, 3);
        y.join(0, 1);
        Check.due("the MONTH of the joining, not the other one's USE", y.ofCard(0, 2), 8);
    }

    // ---- LOTS

    private static void lots() {
        Check.sentence(0, "LOTS are numbered from 0 as they come, at most 60 for all CARDS together.");
        Works x = new Works();
        x.law(0, 6, 0, 0);
        x.sell(0, 0, 100);
        x.sell(1, 0, 7);
        x.load(0, 3, true);
        x.pay(0, 100);
        Steps.pass(x, 6);
        x.convert(0, 5);
        x.giveBack(0, 2);
        x.load(1, 8, false);
        int[] cards = {0, 1, 0, 0, 0, 1};
        int[] origins = {0, 0, 3, 2, 1, 0};
        for (int lot = 0; lot < 6; lot++) {
            Check.due("CARD of lot " + lot, x.ofLot(lot, 0), cards[lot]);
            Check.due("ORIGIN of lot " + lot, x.ofLot(lot, 1), origins[lot]);
        }
        Check.noSuch("a seventh", x, () -> x.ofLot(6, 0));
    }

    /** 12 CARDS of all CHAINS, 5 LOTS on each. */
    private static void sixtyLotsOfAllCards() {
        Check.sentence(0, "LOTS are numbered from 0 as they come, at most 60 for all CARDS together.");
        Works x = new Works();
        for (int card = 0; card < 12; card++) {
            x.sell(card % 4, card % 3, 1);
            for (int lot = 1; lot < 5; lot++) {
                x.load(card, lot, lot % 2 == 0);
            }
        }
        Check.due("the 60th", x.ofLot(59, 0), 11);
        for (int card = 0; card < 12; card++) {
            int on = card;
            Check.notNow("a 61st on card " + card, x, () -> x.load(on, 1, false));
        }
        x.die(3, 0);
        Check.notNow("LOTS of the dead count, too", x, () -> x.load(0, 1, false));
        Steps.pass(x, 24);
        Check.due("all have ended", x.ofCard(0, 1), 0);
        Check.notNow("LOTS that have EXPIRED count, too", x, () -> x.load(0, 1, true));
    }

    private static final String ORIGIN_AND_END = "A LOT is on a CARD, and has an ORIGIN: BOUGHT 0, RETURNED 1,"
        + " CONVERTED 2 or GRANTED 3; it has coins LEFT, a BEGIN, the MONTH in which it comes, and an END: so many MONTHS"
        + " behind its BEGIN, for BOUGHT as the LIFE of the CARD tells, none if that is 0, for RETURNED 3, for CONVERTED"
        + " 12, for GRANTED 6.";

    private static void endOfBought() {
        Check.sentence(0, ORIGIN_AND_END);
        for (int begin = 0; begin <= 9; begin += 9) {
            for (int life : new int[] {6, 7, 59, 60}) {
                Works x = new Works();
                x.law(0, life, 0, 0);
                Steps.pass(x, begin);
                x.sell(0, 0, 1);
                x.load(0, 1, false);
                Check.due("END of a lot that is sold, with LIFE " + life, x.ofLot(0, 3), begin + life);
                Check.due("END of a lot that is loaded, with LIFE " + life, x.ofLot(1, 3), begin + life);
            }
        }
        Works none = new Works();
        none.law(0, 0, 0, 0);
        none.sell(0, 0, 1);
        none.load(0, 1, false);
        Check.due("none for LIFE 0, sold", none.ofLot(0, 3), -1);
        Check.due("none for LIFE 0, loaded", none.ofLot(1, 3), -1);
        Steps.pass(none, 240);
        Check.due("none at the end of all MONTHS", none.ofLot(0, 3), -1);
        Check.due("and all is LEFT then", none.ofCard(0, 1), 2);
    }

    /** A CARD in MONTH 9 with a LOT of each ORIGIN: 0 BOUGHT, 2 CONVERTED, 3 RETURNED, 4 GRANTED. */
    private static Works allOrigins(int life) {
        Works x = new Works();
        x.law(0, life, 0, 0);
        x.sell(0, 0, 100);
        x.load(0, 60, true);
        x.pay(0, 60);
        Steps.pass(x, 9);
        x.convert(0, 5);
        x.giveBack(0, 10);
        x.load(0, 4, true);
        return x;
    }

    private static void endsOfTheOtherOrigins() {
        Check.sentence(0, ORIGIN_AND_END);
        for (int life : new int[] {0, 10, 60}) {
            Works x = allOrigins(life);
            Check.due("BOUGHT", x.ofLot(0, 1), 0);
            Check.due("CONVERTED", x.ofLot(2, 1), 2);
            Check.due("its END", x.ofLot(2, 3), 21);
            Check.due("RETURNED", x.ofLot(3, 1), 1);
            Check.due("its END", x.ofLot(3, 3), 12);
            Check.due("GRANTED", x.ofLot(4, 1), 3);
            Check.due("its END", x.ofLot(4, 3), 15);
            Check.due("END of a gift of MONTH 0", x.ofLot(1, 3), 6);
        }
    }

    private static void beginOfALot() {
        Check.sentence(0, ORIGIN_AND_END);
        Works x = allOrigins(60);
        Check.due("BEGIN in MONTH 0", x.ofLot(0, 4), 0);
        for (int lot = 2; lot <= 4; lot++) {
            Check.due("BEGIN in MONTH 9", x.ofLot(lot, 4), 9);
        }
        int[] left = {100, 0, 1, 10, 4};
        for (int lot = 0; lot <= 4; lot++) {
            Check.due("LEFT of lot " + lot, x.ofLot(lot, 2), left[lot]);
        }
        Steps.pass(x, 60);
        Check.due("BEGIN stays", x.ofLot(4, 4), 9);
        Check.due("END stays", x.ofLot(4, 3), 15);
        Check.due("ORIGIN stays", x.ofLot(4, 1), 3);
    }

    private static final String EXPIRED = "It has EXPIRED from the MONTH on that is its END.";

    /** Coins go back to the LOT until the MONTH ahead of its END, and to a new one from its END on. */
    private static void backAroundTheEnd(String name, Works x, int payment, int lot, int next) {
        int end = x.ofLot(lot, 3);
        Steps.pass(x, end - 1 - x.month());
        int left = x.ofLot(lot, 2);
        x.giveBack(payment, 1);
        Check.due(name + " takes a coin in the MONTH ahead of its END", x.ofLot(lot, 2), left + 1);
        Check.noSuch(name + " needs no new lot then", x, () -> x.ofLot(next, 0));
        x.pass();
        x.giveBack(payment, 1);
        Check.due(name + " takes none in the MONTH of its END", x.ofLot(lot, 2), 0);
        Check.due(name + " has a new lot then", x.ofLot(next, 2), 1);
        x.pass();
        x.giveBack(payment, 1);
        Check.due(name + " takes none later", x.ofLot(lot, 2), 0);
        Check.due(name + " has a new lot later", x.ofLot(next + 1, 2), 1);
    }

    private static void expired() {
        Check.sentence(0, EXPIRED);
        Works bought = new Works();
        bought.law(0, 6, 0, 0);
        bought.sell(0, 0, 10);
        bought.pay(0, 10);
        backAroundTheEnd("BOUGHT", bought, 0, 0, 1);
        Works granted = new Works();
        granted.law(0, 0, 0, 0);
        granted.sell(0, 0, 1);
        granted.load(0, 10, true);
        granted.pay(0, 10);
        backAroundTheEnd("GRANTED", granted, 0, 1, 2);
        Works converted = new Works();
        converted.law(0, 0, 0, 0);
        converted.sell(0, 0, 500);
        converted.pay(0, 150);
        Steps.pass(converted, 2);
        converted.convert(0, 15);
        converted.pay(0, 3);
        backAroundTheEnd("CONVERTED", converted, 1, 1, 2);
        Works returned = new Works();
        returned.law(0, 6, 0, 0);
        returned.sell(0, 0, 10);
        returned.pay(0, 10);
        Steps.pass(returned, 6);
        returned.giveBack(0, 10);
        returned.pay(0, 10);
        backAroundTheEnd("RETURNED", returned, 1, 1, 2);
    }

    private static void neverExpired() {
        Check.sentence(0, EXPIRED);
        Works x = new Works();
        x.law(0, 0, 0, 0);
        x.sell(0, 0, 10);
        x.pay(0, 10);
        Steps.pass(x, 240);
        x.giveBack(0, 10);
        Check.due("a LOT without END takes coins in the last MONTH", x.ofLot(0, 2), 10);
        Check.noSuch("no new lot", x, () -> x.ofLot(1, 0));
    }

    private static void balance() {
        Check.sentence(0, "The BALANCE of a CARD is what all LOTS on it have LEFT.");
        Works x = new Works();
        x.sell(0, 0, 1);
        Check.due("one coin", x.ofCard(0, 1), 1);
        x.pay(0, 1);
        Check.due("none", x.ofCard(0, 1), 0);
        x.load(0, 500, false);
        x.load(0, 500, true);
        x.sell(0, 0, 30);
        Check.due("two LOTS", x.ofCard(0, 1), 1000);
        Check.due("another card's", x.ofCard(1, 1), 30);
        for (int lot = 4; lot < 60; lot++) {
            x.load(0, 500, lot % 2 == 0);
        }
        Check.due("all of 59 LOTS", x.ofCard(0, 1), 58 * 500);
        Check.due("another card's still", x.ofCard(1, 1), 30);
    }

    private static final String ORDER = "The ORDER of the LOTS on a CARD that have coins LEFT: one whose END comes sooner"
        + " is ahead, one without END behind all that have one; with the same END, or without any, the greater ORIGIN is"
        + " ahead; with the same ORIGIN, too, the lower number.";

    private static void orderIs(Works x, int card, int... lots) {
        for (int place = 0; place < lots.length; place++) {
            Check.due("orderAt(" + card + ", " + place + ")", x.orderAt(card, place), lots[place]);
        }
        Check.due("none behind them", x.orderAt(card, lots.length), -1);
    }

    /** One MONTH sooner is sooner, whatever ORIGIN and number. */
    private static void orderByEnd() {
        Check.sentence(0, ORDER);
        Works x = new Works();
        x.law(0, 7, 0, 0);
        x.sell(0, 0, 1);
        x.load(0, 1, true);
        orderIs(x, 0, 1, 0);
        Steps.pass(x, 2);
        x.load(0, 1, true);
        orderIs(x, 0, 1, 0, 2);
        Works y = new Works();
        y.law(0, 60, 0, 0);
        y.law(1, 59, 0, 0);
        y.sell(0, 0, 1);
        y.sell(0, 1, 1);
        y.join(0, 1);
        orderIs(y, 0, 1, 0);
    }

    private static void orderWithoutEnd() {
        Check.sentence(0, ORDER);
        Works x = new Works();
        x.law(0, 0, 0, 0);
        x.law(1, 60, 0, 0);
        x.sell(0, 0, 1);
        x.sell(0, 1, 1);
        x.load(1, 1, true);
        x.join(0, 1);
        orderIs(x, 0, 2, 1, 0);
        x.load(0, 1, false);
        orderIs(x, 0, 2, 1, 0, 3);
        Works late = new Works();
        late.law(0, 0, 0, 0);
        late.law(1, 60, 0, 0);
        Steps.pass(late, 240);
        late.sell(0, 0, 1);
        late.sell(0, 1, 1);
        late.join(0, 1);
        Check.due("the END of the last MONTH", late.ofLot(1, 3), 300);
        orderIs(late, 0, 1, 0);
    }

    /** All four ORIGINS with the END 15. */
    private static void orderByOrigin() {
        Check.sentence(0, ORDER);
        Works x = new Works();
        x.law(0, 15, 0, 0);
        x.sell(0, 0, 1);
        x.load(0, 60, true);
        x.pay(0, 60);
        Steps.pass(x, 3);
        x.convert(0, 5);
        Steps.pass(x, 6);
        x.load(0, 1, true);
        Steps.pass(x, 3);
        x.giveBack(0, 1);
        for (int lot : new int[] {0, 2, 3, 4}) {
            Check.due("END of lot " + lot, x.ofLot(lot, 3), 15);
        }
        // 3 GRANTED, 2 CONVERTED, 4 RETURNED, 0 BOUGHT.
        orderIs(x, 0, 3, 2, 4, 0);
        int[] order = {3, 2, 4, 0};
        for (int paid = 0; paid < 4; paid++) {
            x.pay(0, 1);
            Check.due("the coin is taken from the first of the ORDER", x.ofLot(order[paid], 2), 0);
        }
    }

    private static void orderByNumber() {
        Check.sentence(0, ORDER);
        Works x = new Works();
        x.law(0, 10, 0, 0);
        x.law(1, 6, 0, 0);
        x.sell(0, 0, 1);
        x.load(0, 1, false);
        Steps.pass(x, 4);
        x.sell(0, 1, 1);
        x.load(0, 1, true);
        x.load(0, 1, true);
        x.join(1, 0);
        // All END in MONTH 10; lots 0 and 1 began in 0, lot 2 in 4; 3 and 4 are GRANTED.
        orderIs(x, 1, 3, 4, 0, 1, 2);
        Works none = new Works();
        none.law(0, 0, 0, 0);
        none.sell(0, 0, 1);
        none.pass();
        none.sell(0, 0, 1);
        none.load(0, 1, false);
        none.join(1, 0);
        orderIs(none, 1, 0, 1, 2);
    }

    private static void orderOfWhatIsLeft() {
        Check.sentence(0, ORDER);
        Works x = new Works();
        x.sell(0, 0, 2);
        x.load(0, 2, true);
        x.pay(0, 1);
        orderIs(x, 0, 1, 0);
        x.pay(0, 1);
        orderIs(x, 0, 0);
        x.pay(0, 2);
        orderIs(x, 0);
        x.giveBack(0, 1);
        orderIs(x, 0, 1);
    }

    // ---- promise 1: a new object

    private static void newObject() {
        Check.sentence(1, "Begins in the MONTH 0, without CARDS, LOTS, CAMPAIGNS and PAYMENTS.");
        Works x = new Works();
        Check.due("month", x.month(), 0);
        Check.noSuch("load", x, () -> x.load(0, 1, false));
        Check.noSuch("bar", x, () -> x.bar(0, 1, true));
        Check.noSuch("pay", x, () -> x.pay(0, 1));
        Check.noSuch("whyNot", x, () -> x.whyNot(0, 1));
        Check.noSuch("giveBack", x, () -> x.giveBack(0, 1));
        Check.noSuch("convert", x, () -> x.convert(0, 5));
        Check.noSuch("join", x, () -> x.join(0, 1));
        Check.noSuch("attempt", x, () -> x.attempt(0, 27182));
        Check.noSuch("free", x, () -> x.free(0));
        Check.noSuch("ofCard", x, () -> x.ofCard(0, 0));
        Check.noSuch("ofLot", x, () -> x.ofLot(0, 0));
        Check.noSuch("orderAt", x, () -> x.orderAt(0, 0));
        Check.noSuch("ofPayment", x, () -> x.ofPayment(0, 0));
        Check.noSuch("taken", x, () -> x.taken(0, 0));
        Check.due("the first campaign", x.campaign(true, 1, 1), 0);
        Check.due("the first card", x.sell(0, 0, 1), 0);
        Check.due("the first lot", x.ofLot(0, 2), 1);
        Check.due("the first payment", x.pay(0, 1), 0);
    }

    // ---- promise 2: law

    private static void lawIsForCardsFromNowOn() {
        Check.sentence(2, "Sets the law of a LAND, for CARDS that are sold from now on.");
        Works x = new Works();
        x.sell(0, 2, 100);
        x.law(2, 6, 0, 100);
        x.sell(1, 2, 100);
        Check.due("LIFE of one sold ahead", x.ofCard(0, 7), 24);
        Check.due("LIFE of one sold behind it", x.ofCard(1, 7), 6);
        Check.due("LIFE in another land", x.law(1, 24, 2, 50), 24);
        Steps.pass(x, 6);
        Check.due("all OWED", x.owed(2, 1), 100);
        Check.due("nothing OWED yet", x.owed(2, 0), 0);
    }

    private static void life() {
        Check.sentence(2, "`life`: 0, or 6 to 60");
        Edges.takes("life", Works::new, (x, life) -> x.law(0, life, 2, 50), 0, 6, 7, 59, 60);
        Edges.outOfRange("life", Works::new, (x, life) -> x.law(0, life, 2, 50), -1, 1, 2, 4, 5, 61, 62, -6, -60,
            Integer.MIN_VALUE, Integer.MAX_VALUE);
    }

    private static void fee() {
        Check.sentence(2, "`fee`: 0 to 9");
        Edges.range("fee", Works::new, (x, fee) -> x.law(0, 24, fee, 50), 0, 9);
        for (int fee = 0; fee <= 9; fee++) {
            Works x = new Works();
            x.law(0, 24, fee, 50);
            x.sell(0, 0, 100);
            Steps.pass(x, 12);
            Check.due("BALANCE behind a FEE of " + fee, x.ofCard(0, 1), 100 - fee);
        }
    }

    private static void share() {
        Check.sentence(2, "`share`: 0 to 100");
        Edges.range("share", Works::new, (x, share) -> x.law(0, 24, 2, share), 0, 100);
        int[] shares = {0, 1, 99, 100};
        int[] owed = {0, 1, 197, 199};
        for (int i = 0; i < shares.length; i++) {
            Works x = new Works();
            x.law(0, 6, 0, shares[i]);
            x.sell(0, 0, 199);
            Steps.pass(x, 6);
            Check.due("OWED by SHARE " + shares[i], x.owed(0, 0), owed[i]);
            Check.due("INCOME by SHARE " + shares[i], x.ofChain(0, 4), 199 - owed[i]);
        }
    }

    private static void lifeBefore() {
        Check.sentence(2, "Returns the LIFE before.");
        Works x = new Works();
        Check.due("at first", x.law(0, 0, 9, 100), 24);
        Check.due("then", x.law(0, 60, 9, 100), 0);
        Check.due("then", x.law(0, 6, 9, 100), 60);
        Check.due("then", x.law(0, 6, 0, 0), 6);
        Check.due("of another land", x.law(1, 6, 0, 0), 24);
        Check.outOfRange("a refused one", x, () -> x.law(0, 61, 0, 0));
        Check.due("behind a refused one", x.law(0, 24, 0, 0), 6);
    }

    private static void noSuchLand() {
        Check.sentence(2, "Throws `IndexOutOfBoundsException` if there is no such LAND");
        Edges.places("land", Works::new, (x, land) -> x.law(land, 24, 2, 50), 3);
    }

    private static void lawOutOfRange() {
        Check.sentence(2, "Throws `IllegalArgumentException` if life, fee or share is out of range");
        Works x = new Works();
        x.law(2, 7, 3, 70);
        Check.outOfRange("life alone", x, () -> x.law(2, 5, 0, 0));
        Check.outOfRange("fee alone", x, () -> x.law(2, 60, 10, 100));
        Check.outOfRange("share alone", x, () -> x.law(2, 60, 9, 101));
        Check.outOfRange("all of them", x, () -> x.law(2, 61, -1, -1));
    }

    // ---- promise 3: rate

    private static Works halfAge(int coins) {
        Works x = new Works();
        x.law(0, 10, 0, 0);
        x.sell(1, 0, coins);
        x.sell(2, 0, coins);
        Steps.pass(x, 5);
        return x;
    }

    private static void rateOfAChain() {
        Check.sentence(3, "Sets the RATE of a CHAIN.");
        Works x = halfAge(200);
        x.rate(1, 100);
        Check.due("booked by it", x.booked(1), 100);
        Check.due("booked by another chain", x.booked(2), 0);
        x.die(2, 0);
        Check.takes("rate of a DEAD chain", () -> x.rate(2, 7));
    }

    private static void rate() {
        Check.sentence(3, "`rate`: 0 to 100");
        Edges.range("rate", Works::new, (x, rate) -> x.rate(0, rate), 0, 100);
        int[] rates = {0, 1, 99, 100};
        int[] booked = {0, 1, 99, 100};
        for (int i = 0; i < rates.length; i++) {
            Works x = halfAge(200);
            x.rate(1, rates[i]);
            Check.due("booked by RATE " + rates[i], x.booked(1), booked[i]);
        }
    }

    private static void rateBefore() {
        Check.sentence(3, "Returns the one before.");
        Works x = new Works();
        Check.due("at first", x.rate(2, 100), 0);
        Check.due("then", x.rate(2, 0), 100);
        Check.due("then", x.rate(2, 1), 0);
        Check.due("of another chain", x.rate(1, 9), 0);
        Check.outOfRange("a refused one", x, () -> x.rate(2, 101));
        Check.due("behind a refused one", x.rate(2, 3), 1);
    }

    private static void noSuchChainForARate() {
        Check.sentence(3, "Throws `IndexOutOfBoundsException` if there is no such CHAIN");
        Edges.places("chain", Works::new, (x, chain) -> x.rate(chain, 50), 4);
    }

    private static void rateOutOfRange() {
        Check.sentence(3, "Throws `IllegalArgumentException` if rate is out of range");
        Works x = halfAge(200);
        x.rate(1, 50);
        Check.outOfRange("-1", x, () -> x.rate(1, -1));
        Check.outOfRange("101", x, () -> x.rate(1, 101));
        x.die(1, 0);
        Check.outOfRange("101 for a DEAD chain", x, () -> x.rate(1, 101));
    }

    // ---- promise 4: sell

    private static void sellGivesABoughtLot() {
        Check.sentence(4, "Sells a CARD, with a LOT that is BOUGHT.");
        Works x = new Works();
        x.sell(3, 2, 17);
        Check.due("the lot's CARD", x.ofLot(0, 0), 0);
        Check.due("its ORIGIN", x.ofLot(0, 1), 0);
        Check.due("received", x.ofChain(3, 0), 17);
        Check.noSuch("one lot alone", x, () -> x.ofLot(1, 0));
    }

    private static void sellCoins() {
        Check.sentence(4, "`coins`: 1 to 500: of the LOT");
        Edges.range("coins", Works::new, (x, coins) -> x.sell(0, 0, coins), 1, 500);
        for (int coins : new int[] {1, 500}) {
            Works x = new Works();
            x.sell(0, 0, coins);
            Check.due("LEFT", x.ofLot(0, 2), coins);
            Check.due("received", x.ofChain(0, 0), coins);
        }
    }

    private static void sellAnswersTheNumber() {
        Check.sentence(4, "Returns the number of the CARD.");
        Works x = new Works();
        Check.due("the first", x.sell(0, 0, 500), 0);
        x.load(0, 1, true);
        Check.due("the second, whatever LOTS there are", x.sell(3, 2, 1), 1);
        Check.noSuch("a refused one", x, () -> x.sell(4, 0, 1));
        x.join(0, x.sell(0, 0, 1));
        Check.due("behind a refused one, and a CLOSED one", x.sell(1, 1, 1), 3);
    }

    private static void sellWithoutChainOrLand() {
        Check.sentence(4, "Throws `IndexOutOfBoundsException` if there is no such CHAIN or LAND");
        Edges.places("chain", Works::new, (x, chain) -> x.sell(chain, 0, 1), 4);
        Edges.places("land", Works::new, (x, land) -> x.sell(0, land, 1), 3);
        Works x = new Works();
        Check.noSuch("neither", x, () -> x.sell(4, 3, 1));
    }

    private static void sellOutOfRange() {
        Check.sentence(4, "Throws `IllegalArgumentException` if coins is out of range");
        Works x = new Works();
        x.sell(0, 0, 5);
        Check.outOfRange("0", x, () -> x.sell(0, 0, 0));
        Check.outOfRange("501", x, () -> x.sell(0, 0, 501));
    }

    private static final String SELL_NOT_NOW =
        "Throws `IllegalStateException` if the CHAIN is DEAD, there are 12 CARDS, or 60 LOTS";

    private static void sellOfTheDead() {
        Check.sentence(4, SELL_NOT_NOW);
        for (int chain = 0; chain <= 3; chain++) {
            Works x = new Works();
            int dead = chain;
            x.die(dead, 9999);
            Check.notNow("of the DEAD", x, () -> x.sell(dead, 0, 1));
            Check.due("of a living one", x.sell((dead + 1) % 4, 0, 1), 0);
        }
    }

    private static void sellOfTheThirteenth() {
        Check.sentence(4, SELL_NOT_NOW);
        Works x = new Works();
        for (int card = 0; card < 11; card++) {
            x.sell(0, 0, 1);
        }
        Check.due("with 11 CARDS", x.sell(0, 0, 1), 11);
        Check.notNow("with 12 CARDS", x, () -> x.sell(0, 0, 1));
        Check.notNow("with 12 CARDS, of another chain", x, () -> x.sell(3, 2, 500));
    }

    private static void sellWithSixtyLots() {
        Check.sentence(4, SELL_NOT_NOW);
        Works x = new Works();
        x.sell(0, 0, 1);
        for (int lot = 1; lot < 59; lot++) {
            x.load(0, 1, false);
        }
        Check.due("with 59 LOTS", x.sell(1, 1, 1), 1);
        Check.due("the 60th LOT is its", x.ofLot(59, 0), 1);
        Check.notNow("with 60 LOTS", x, () -> x.sell(0, 0, 1));
    }

    // ---- promise 5: load

    private static void loadFrozenOrNot() {
        Check.sentence(5, "Loads a CARD, FROZEN or not, with a LOT.");
        Works x = new Works();
        x.sell(0, 0, 1);
        Check.due("an OPEN one", x.load(0, 1, false), 2);
        Steps.freeze(x, 0);
        Check.due("a FROZEN one, BOUGHT", x.load(0, 1, false), 3);
        Check.due("a FROZEN one, GRANTED", x.load(0, 1, true), 4);
        Check.due("FROZEN it stays", x.ofCard(0, 0), 1);
        Check.due("four LOTS", x.ofLot(3, 2), 1);
    }

    private static void loadCoins() {
        Check.sentence(5, "`coins`: 1 to 500");
        for (boolean isGranted : new boolean[] {false, true}) {
            Edges.range("coins", EdgesOfCardsTest::oneCard, (x, coins) -> x.load(0, coins, isGranted), 1, 500);
            for (int coins : new int[] {1, 500}) {
                Works x = oneCard();
                Check.due("load", x.load(0, coins, isGranted), 7 + coins);
                Check.due("LEFT", x.ofLot(1, 2), coins);
            }
        }
    }

    private static Works oneCard() {
        Works x = new Works();
        x.sell(0, 0, 7);
        return x;
    }

    private static void loadGrantedOrBought() {
        Check.sentence(5, "`isGranted`: whether the LOT is GRANTED; otherwise it is BOUGHT");
        Works x = oneCard();
        x.load(0, 11, true);
        Check.due("GRANTED", x.ofLot(1, 1), 3);
        Check.due("received, of a gift", x.ofChain(0, 0), 7);
        Check.due("came, of a gift", x.ofChain(0, 1), 11);
        x.load(0, 13, false);
        Check.due("BOUGHT", x.ofLot(2, 1), 0);
        Check.due("received", x.ofChain(0, 0), 20);
        Check.due("came", x.ofChain(0, 1), 11);
    }

    private static void loadAnswersTheBalance() {
        Check.sentence(5, "Returns the BALANCE then.");
        Works x = oneCard();
        x.sell(0, 0, 100);
        Check.due("with what was there", x.load(0, 3, false), 10);
        x.pay(0, 10);
        Check.due("with nothing there", x.load(0, 4, true), 4);
        Check.due("of another card", x.load(1, 1, true), 101);
    }

    private static void loadWithoutCard() {
        Check.sentence(5, "Throws `IndexOutOfBoundsException` if there is no such CARD");
        Edges.places("card", EdgesOfCardsTest::threeCards, (x, card) -> x.load(card, 1, false), 3);
        Edges.places("card", EdgesOfCardsTest::threeCards, (x, card) -> x.load(card, 1, true), 3);
        Edges.noSuch("card of none", Works::new, (x, card) -> x.load(card, 1, true), 0, 1, 11, 12);
    }

    private static Works threeCards() {
        Works x = new Works();
        x.sell(0, 0, 5);
        x.sell(0, 1, 6);
        x.sell(1, 0, 7);
        return x;
    }

    private static void loadOutOfRange() {
        Check.sentence(5, "Throws `IllegalArgumentException` if coins is out of range");
        Works x = threeCards();
        Check.outOfRange("0, BOUGHT", x, () -> x.load(0, 0, false));
        Check.outOfRange("501, BOUGHT", x, () -> x.load(1, 501, false));
        Check.outOfRange("0, GRANTED", x, () -> x.load(2, 0, true));
        Check.outOfRange("501, GRANTED", x, () -> x.load(2, 501, true));
    }

    private static final String LOAD_NOT_NOW =
        "Throws `IllegalStateException` if the CARD is CLOSED, its CHAIN is DEAD, or there are 60 LOTS";

    private static void loadOfTheClosed() {
        Check.sentence(5, LOAD_NOT_NOW);
        Works x = threeCards();
        x.join(0, 1);
        Check.notNow("of the CLOSED, BOUGHT", x, () -> x.load(1, 1, false));
        Check.notNow("of the CLOSED, GRANTED", x, () -> x.load(1, 1, true));
        Check.due("of the one", x.load(0, 1, false), 12);
    }

    private static void loadOfTheDead() {
        Check.sentence(5, LOAD_NOT_NOW);
        Works x = threeCards();
        x.die(0, 9999);
        Check.notNow("of a DEAD chain, BOUGHT", x, () -> x.load(0, 1, false));
        Check.notNow("of a DEAD chain, GRANTED", x, () -> x.load(1, 1, true));
        Check.due("of a living one", x.load(2, 1, false), 8);
    }

    private static void loadWithSixtyLots() {
        Check.sentence(5, LOAD_NOT_NOW);
        for (boolean isGranted : new boolean[] {false, true}) {
            Works x = threeCards();
            for (int lot = 3; lot < 59; lot++) {
                x.load(lot % 3, 1, false);
            }
            Check.takes("with 59 LOTS", () -> x.load(0, 1, isGranted));
            Check.due("the 60th", x.ofLot(59, 1), isGranted ? 3 : 0);
            Check.notNow("with 60 LOTS", x, () -> x.load(0, 1, isGranted));
        }
    }
}
