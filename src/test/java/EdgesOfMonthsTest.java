/** The ends of what the document says of MONTHS and of deaths, and in promises 18 to 20. */
final class EdgesOfMonthsTest {
    private EdgesOfMonthsTest() {
    }

    public static void main(String[] args) {
        months();
        callsInTheLastMonth();
        roundedDown();
        eachCoinIsTold();
        endOfBought();
        endOfReturned();
        endOfConverted();
        endOfGranted();
        endOfNothing();
        endOfSeveral();
        endOfAFrozenCard();
        endInTheLastMonth();
        shareOfFewCoins();
        shareGoesToLandAndChain();
        feeFromTheTwelfthMonth();
        feeCountsFromTheLatestUse();
        feeOrBalance();
        feeOfNothing();
        feeInOrder();
        feeOfEachCard();
        feeOfFrozenAndJoined();
        feeBehindTheEnds();
        aChainDies();
        estateOfEachOrigin();
        estateThatIsTheClaim();
        estateAheadOfTheOrigin();
        estateOfMoreThanAllNumbers();
        estateIsLess();
        nothingLeft();
        pass();
        passBeyond();
        die();
        estateRange();
        dieAnswersWhatIsLeft();
        dieWithoutChain();
        dieOutOfRange();
        dieOfTheDead();
        month();
        Check.end();
    }

    private static Works card(int life, int fee, int share, int coins) {
        Works x = new Works();
        x.law(0, life, fee, share);
        x.sell(0, 0, coins);
        return x;
    }

    // ---- MONTHS

    private static final String MONTHS = "The MONTH is 0 at first, and 240 at most.";

    private static void months() {
        Check.sentence(0, MONTHS);
        Works x = new Works();
        Check.due("at first", x.month(), 0);
        Steps.pass(x, 239);
        Check.due("ahead of the last one", x.month(), 239);
        Check.due("the last one", x.pass(), 240);
        Check.notNow("one more", x, x::pass);
        Check.due("the last one still", x.month(), 240);
    }

    private static void callsInTheLastMonth() {
        Check.sentence(0, MONTHS);
        Works x = new Works();
        Steps.pass(x, 240);
        x.sell(0, 0, 100);
        x.sell(0, 0, 1);
        Check.due("USE", x.ofCard(0, 2), 240);
        Check.due("BEGIN", x.ofLot(0, 4), 240);
        Check.due("END", x.ofLot(0, 3), 264);
        x.load(0, 1, true);
        Check.due("END of a gift", x.ofLot(2, 3), 246);
        x.pay(0, 50);
        Check.due("MONTH of a PAYMENT", x.ofPayment(0, 3), 240);
        Check.due("giveBack", x.giveBack(0, 50), 0);
        Check.due("join", x.join(0, 1), 102);
        Check.due("die", x.die(0, 102), 0);
        Check.notNow("one more", x, x::pass);
    }

    private static void roundedDown() {
        Check.sentence(0, "All numbers are whole; where something is divided, it is rounded down.");
        Works x = card(6, 0, 99, 199);
        x.campaign(true, 1, 0);
        Check.due("hundredths: 199 less 1.99", x.best(199), 198);
        x.rate(0, 99);
        x.pay(0, 20);
        Check.due("a tenth of 20", x.ofPayment(0, 4), 2);
        x.giveBack(0, 1);
        Check.due("a tenth of 19", x.ofPayment(0, 4), 1);
        x.pass();
        Check.due("booked: 180 times 99 by 600, that is 29.7", x.booked(0), 29);
        Steps.pass(x, 5);
        Check.due("SHARE: 99 hundredths of 180, that is 178.2", x.owed(0, 0), 178);
        Check.due("and 1.8 is the rest of it, 2", x.ofChain(0, 4), 2);
        Works y = card(24, 0, 0, 2);
        y.load(0, 1, false);
        Check.due("an ESTATE of 2: 1.33 and 0.67, that is 1 and 0", y.die(0, 2), 1);
        Check.due("PAID OUT", y.ofChain(0, 6), 1);
        Check.due("LOST", y.ofChain(0, 7), 2);
    }

    private static void eachCoinIsTold() {
        Check.sentence(0, "Each coin that was received or given is left, spent, or told of where it went.");
        Works x = new Works();
        x.law(0, 7, 3, 33);
        x.law(1, 0, 9, 0);
        for (int card = 0; card < 4; card++) {
            x.sell(card / 2, card % 2, 151 + card);
        }
        for (int month = 0; month < 60; month++) {
            if (month % 5 == 0) {
                x.load(month / 5 % 4, 13 + month, month % 2 == 1);
            }
            if (month % 5 == 0 && month < 20) {
                x.pay(1, 30);
                x.giveBack(month / 5, 3);
            }
            if (month == 20) {
                Check.due("convert", x.convert(1, 5), 1);
            }
            if (month == 40) {
                Check.due("give back to what has EXPIRED", x.giveBack(1, 20), 7);
            }
            x.pass();
            told(x.asked(), 0);
            told(x.asked(), 1);
        }
        x.die(0, 44);
        told(x.asked(), 0);
        told(x.asked(), 1);
    }

    private static void told(Face x, int chain) {
        int came = x.ofChain(chain, 0) + x.ofChain(chain, 1);
        int went = 0;
        for (int what = 2; what <= 7; what++) {
            went += x.ofChain(chain, what);
        }
        for (int land = 0; land < 3; land++) {
            went += x.owed(land, chain);
        }
        Check.due("all coins of chain " + chain, went, came);
        Check.due("what is LEFT by accounts", x.leftAnew(chain), x.ofChain(chain, 2));
    }

    // ---- LOTS that end

    private static final String ENDS = "Each LOT on it whose END is this MONTH, by numbers, has nothing LEFT any more: of coins"
        + " BOUGHT or RETURNED, SHARE hundredths are OWED to the LAND of the CARD, the rest is INCOME of its CHAIN; coins"
        + " CONVERTED or GRANTED are VOID.";

    /** LEFT of a lot, and OWED to land 0, INCOME and VOID of chain 0. */
    private static void isThen(Works x, int lot, int left, int owed, int income, int gone) {
        String when = "in MONTH " + x.month() + " ";
        Check.due(when + "LEFT", x.ofLot(lot, 2), left);
        Check.due(when + "OWED", x.owed(0, 0), owed);
        Check.due(when + "INCOME", x.ofChain(0, 4), income);
        Check.due(when + "VOID", x.ofChain(0, 5), gone);
    }

    private static void endOfBought() {
        Check.sentence(0, ENDS);
        for (int life : new int[] {6, 60}) {
            Works x = card(life, 0, 30, 10);
            Steps.pass(x, life - 1);
            isThen(x, 0, 10, 0, 0, 0);
            x.pass();
            isThen(x, 0, 0, 3, 7, 0);
            x.pass();
            isThen(x, 0, 0, 3, 7, 0);
        }
        Works none = card(0, 0, 30, 10);
        Steps.pass(none, 240);
        isThen(none, 0, 10, 0, 0, 0);
    }

    private static void endOfReturned() {
        Check.sentence(0, ENDS);
        Works x = card(6, 0, 30, 10);
        x.pay(0, 10);
        Steps.pass(x, 6);
        x.giveBack(0, 10);
        Steps.pass(x, 2);
        isThen(x, 1, 10, 0, 0, 0);
        x.pass();
        isThen(x, 1, 0, 3, 7, 0);
    }

    private static void endOfConverted() {
        Check.sentence(0, ENDS);
        Works x = card(0, 0, 30, 50);
        x.pay(0, 50);
        Steps.pass(x, 2);
        x.convert(0, 5);
        Steps.pass(x, 11);
        isThen(x, 1, 1, 0, 0, 0);
        x.pass();
        isThen(x, 1, 0, 0, 0, 1);
    }

    private static void endOfGranted() {
        Check.sentence(0, ENDS);
        Works x = card(0, 0, 30, 1);
        x.load(0, 10, true);
        Steps.pass(x, 5);
        isThen(x, 1, 10, 0, 0, 0);
        x.pass();
        isThen(x, 1, 0, 0, 0, 10);
        Check.due("the other lot stays", x.ofLot(0, 2), 1);
    }

    private static void endOfNothing() {
        Check.sentence(0, ENDS);
        Works x = card(6, 0, 30, 10);
        x.load(0, 5, true);
        x.pay(0, 15);
        Steps.pass(x, 7);
        isThen(x, 0, 0, 0, 0, 0);
        Check.due("NET stays", x.ofChain(0, 3), 15);
    }

    /** Each LOT is rounded by itself: 0.9, 0.9 and 1.8. */
    private static void endOfSeveral() {
        Check.sentence(0, ENDS);
        Works x = card(6, 0, 30, 3);
        x.load(0, 3, false);
        x.load(0, 6, false);
        x.load(0, 4, true);
        x.load(0, 5, true);
        Steps.pass(x, 6);
        isThen(x, 2, 0, 1, 11, 9);
        Check.due("BALANCE", x.ofCard(0, 1), 0);
    }

    private static void endOfAFrozenCard() {
        Check.sentence(0, ENDS);
        Works x = card(6, 0, 30, 10);
        Steps.pass(x, 5);
        Steps.freeze(x, 0);
        x.pass();
        isThen(x, 0, 0, 3, 7, 0);
        Check.due("FROZEN it stays", x.ofCard(0, 0), 1);
    }

    private static void endInTheLastMonth() {
        Check.sentence(0, ENDS);
        Works x = new Works();
        x.law(0, 60, 0, 30);
        Steps.pass(x, 180);
        x.sell(0, 0, 10);
        x.pass();
        x.sell(0, 0, 20);
        Steps.pass(x, 58);
        isThen(x, 0, 10, 0, 0, 0);
        x.pass();
        isThen(x, 0, 0, 3, 7, 0);
        Check.due("one that ends in 241", x.ofLot(1, 2), 20);
    }

    private static void shareOfFewCoins() {
        Check.sentence(0, ENDS);
        int[] shares = {0, 1, 49, 50, 99, 100};
        int[] ofOne = {0, 0, 0, 0, 0, 1};
        int[] ofTwo = {0, 0, 0, 1, 1, 2};
        int[] ofFiveHundred = {0, 5, 245, 250, 495, 500};
        for (int i = 0; i < shares.length; i++) {
            int[] coins = {1, 2, 500};
            int[] owed = {ofOne[i], ofTwo[i], ofFiveHundred[i]};
            for (int of = 0; of < 3; of++) {
                Works x = card(6, 0, shares[i], coins[of]);
                Steps.pass(x, 6);
                isThen(x, 0, 0, owed[of], coins[of] - owed[of], 0);
            }
        }
    }

    private static void shareGoesToLandAndChain() {
        Check.sentence(0, ENDS);
        Works x = new Works();
        for (int land = 0; land < 3; land++) {
            x.law(land, 6, 0, 10 * land + 10);
            for (int chain = 0; chain < 4; chain++) {
                x.sell(chain, land, 100 + chain * 100);
            }
        }
        Steps.pass(x, 6);
        for (int land = 0; land < 3; land++) {
            for (int chain = 0; chain < 4; chain++) {
                Check.due("owed(" + land + ", " + chain + ")", x.owed(land, chain), (chain + 1) * (10 * land + 10));
            }
        }
        for (int chain = 0; chain < 4; chain++) {
            Check.due("INCOME of chain " + chain, x.ofChain(chain, 4), (chain + 1) * (300 - 60));
        }
    }

    // ---- FEES

    private static final String FEES = "If the MONTH is 12 or more behind its USE, as many coins as its FEE, or its BALANCE, if"
        + " that is less, are taken from its LOTS in their ORDER: they are INCOME.";

    private static void feeFromTheTwelfthMonth() {
        Check.sentence(0, FEES);
        for (int begin : new int[] {0, 1, 200}) {
            Works x = new Works();
            x.law(0, 0, 9, 50);
            Steps.pass(x, begin);
            x.sell(0, 0, 100);
            Steps.pass(x, 11);
            isThen(x, 0, 100, 0, 0, 0);
            x.pass();
            isThen(x, 0, 91, 0, 9, 0);
            x.pass();
            isThen(x, 0, 82, 0, 18, 0);
        }
    }

    private static void feeCountsFromTheLatestUse() {
        Check.sentence(0, FEES);
        Works x = card(0, 9, 50, 100);
        Steps.pass(x, 11);
        x.pay(0, 1);
        Steps.pass(x, 11);
        isThen(x, 0, 99, 0, 0, 0);
        x.pass();
        isThen(x, 0, 90, 0, 9, 0);
        x.load(0, 1, true);
        Steps.pass(x, 11);
        Check.due("behind a load, no FEE", x.ofLot(0, 2), 90);
        x.pass();
        Check.due("then one again", x.ofLot(0, 2), 81);
    }

    private static void feeOrBalance() {
        Check.sentence(0, FEES);
        for (int coins = 1; coins <= 11; coins++) {
            Works x = card(0, 9, 50, coins);
            Steps.pass(x, 12);
            int fee = Math.min(9, coins);
            isThen(x, 0, coins - fee, 0, fee, 0);
            x.pass();
            isThen(x, 0, 0, 0, coins, 0);
        }
        Works x = card(0, 1, 50, 1);
        Steps.pass(x, 12);
        isThen(x, 0, 0, 0, 1, 0);
    }

    private static void feeOfNothing() {
        Check.sentence(0, FEES);
        Works none = card(0, 0, 50, 5);
        Steps.pass(none, 100);
        isThen(none, 0, 5, 0, 0, 0);
        Works empty = card(0, 9, 50, 5);
        empty.pay(0, 5);
        Steps.pass(empty, 13);
        isThen(empty, 0, 0, 0, 0, 0);
        empty.giveBack(0, 5);
        empty.pass();
        isThen(empty, 0, 0, 0, 5, 0);
    }

    /** 4 from the one that ends first, 3 of the next, 2 of the one without END. */
    private static void feeInOrder() {
        Check.sentence(0, FEES);
        Works x = new Works();
        x.law(0, 0, 9, 50);
        x.law(1, 60, 0, 50);
        x.law(2, 59, 0, 50);
        x.sell(0, 0, 10);
        x.sell(0, 1, 3);
        x.sell(0, 2, 4);
        x.join(0, 1);
        x.join(0, 2);
        Steps.pass(x, 12);
        Check.due("the one that ends first", x.ofLot(2, 2), 0);
        Check.due("the next", x.ofLot(1, 2), 0);
        Check.due("the one without END", x.ofLot(0, 2), 8);
        Check.due("INCOME", x.ofChain(0, 4), 9);
    }

    private static void feeOfEachCard() {
        Check.sentence(0, FEES);
        Works x = new Works();
        for (int card = 0; card < 10; card++) {
            x.law(0, 0, card, 50);
            x.sell(card % 4, 0, 100);
        }
        Steps.pass(x, 12);
        for (int card = 0; card < 10; card++) {
            Check.due("BALANCE of card " + card, x.ofCard(card, 1), 100 - card);
        }
        Check.due("INCOME of chain 0", x.ofChain(0, 4), 0 + 4 + 8);
        Check.due("INCOME of chain 1", x.ofChain(1, 4), 1 + 5 + 9);
        Check.due("INCOME of chain 2", x.ofChain(2, 4), 2 + 6);
        Check.due("INCOME of chain 3", x.ofChain(3, 4), 3 + 7);
    }

    private static void feeOfFrozenAndJoined() {
        Check.sentence(0, FEES);
        Works x = new Works();
        x.law(0, 0, 9, 50);
        x.sell(0, 0, 100);
        x.sell(0, 0, 100);
        x.sell(0, 0, 100);
        Steps.freeze(x, 2);
        Steps.pass(x, 6);
        x.join(0, 1);
        Steps.pass(x, 6);
        Check.due("12 behind the USE of the CLOSED one, 6 behind that of the one", x.ofCard(0, 1), 200);
        Check.due("a FROZEN one", x.ofCard(2, 1), 91);
        Steps.pass(x, 6);
        Check.due("12 behind the USE of the one: one FEE, not two", x.ofCard(0, 1), 191);
    }

    private static void feeBehindTheEnds() {
        Check.sentence(0, FEES);
        Works x = card(12, 9, 50, 10);
        Steps.pass(x, 12);
        isThen(x, 0, 0, 5, 5, 0);
        Works y = card(13, 9, 50, 10);
        Steps.pass(y, 12);
        isThen(y, 0, 1, 0, 9, 0);
        y.pass();
        isThen(y, 0, 0, 0, 10, 0);
    }

    // ---- deaths

    /** 60 BOUGHT, 40 RETURNED, 5 CONVERTED and 30 GRANTED, a LOT of each. */
    private static Works allOrigins() {
        Works x = new Works();
        x.law(0, 6, 0, 0);
        x.law(1, 0, 0, 0);
        x.sell(0, 0, 400);
        x.pay(0, 400);
        Steps.pass(x, 6);
        x.sell(0, 1, 60);
        x.convert(0, 25);
        x.giveBack(0, 40);
        x.load(1, 30, true);
        return x;
    }

    private static void isThenOfTheDead(Works x, int paidOut, int lost) {
        Check.due("PAID OUT", x.ofChain(0, 6), paidOut);
        Check.due("LOST", x.ofChain(0, 7), lost);
        Check.due("LEFT", x.ofChain(0, 2), 0);
        Check.due("by accounts", x.leftAnew(0), 0);
    }

    private static void aChainDies() {
        Check.sentence(0, "A CHAIN dies with an ESTATE.");
        Works none = new Works();
        Check.due("without CARDS", none.die(0, 9999), 9999);
        isThenOfTheDead(none, 0, 0);
        Check.due("DEAD", none.ofChain(0, 8), 1);
        Works empty = new Works();
        empty.sell(0, 0, 5);
        empty.pay(0, 5);
        Check.due("without coins LEFT", empty.die(0, 1), 1);
        isThenOfTheDead(empty, 0, 0);
        Works nothing = new Works();
        Check.due("without CARDS and ESTATE", nothing.die(0, 0), 0);
    }

    private static final String CLAIM = "For one ORIGIN behind the other, from BOUGHT to GRANTED: what all LOTS of that ORIGIN"
        + " on CARDS of the CHAIN have LEFT is the CLAIM; if the ESTATE is that or more, all of it is PAID OUT; otherwise of"
        + " each such LOT the ESTATE, as it is ahead of this ORIGIN, times what it has LEFT, divided by the CLAIM, is PAID"
        + " OUT, and the rest of the LOT is LOST.";

    /** One below, at and above each CLAIM: 60, 100, 105 and 135. */
    private static void estateOfEachOrigin() {
        Check.sentence(0, CLAIM);
        for (int claims : new int[] {0, 60, 100, 105, 135}) {
            for (int estate = Math.max(0, claims - 1); estate <= claims + 1; estate++) {
                Works x = allOrigins();
                int paid = Math.min(135, estate);
                Check.due("what is left of " + estate, x.die(0, estate), estate - paid);
                isThenOfTheDead(x, paid, 135 - paid);
            }
        }
    }

    /** LOTS of 3 and 4, and a gift of 2. */
    private static Works seven() {
        Works x = new Works();
        x.sell(0, 0, 3);
        x.sell(0, 1, 4);
        x.load(0, 2, true);
        return x;
    }

    private static void estateThatIsTheClaim() {
        Check.sentence(0, CLAIM);
        // Of 3 and 4: 6 pays 2 and 3, 7 pays all; what is left pays the gift.
        int[] estates = {0, 1, 2, 3, 4, 5, 6, 7, 8, 9, 10};
        int[] paidOut = {0, 1, 2, 3, 4, 5, 6, 7, 8, 9, 9};
        int[] rests = {0, 0, 0, 0, 0, 0, 0, 0, 0, 0, 1};
        for (int i = 0; i < estates.length; i++) {
            Works x = seven();
            Check.due("what is left of " + estates[i], x.die(0, estates[i]), rests[i]);
            isThenOfTheDead(x, paidOut[i], 9 - paidOut[i]);
        }
        // Without the gift what is rounded down is left.
        int[] left = {0, 1, 1, 1, 1, 1, 1, 0, 1};
        for (int estate = 0; estate < left.length; estate++) {
            Works x = new Works();
            x.sell(0, 0, 3);
            x.sell(0, 1, 4);
            Check.due("what is left of " + estate + " without a gift", x.die(0, estate), left[estate]);
            isThenOfTheDead(x, estate - left[estate], 7 - estate + left[estate]);
        }
    }

    /** 5 of 7 is 2.1 of 3 and 2.9 of 4; with what is left behind the first lot it would be 1.7 of 4. */
    private static void estateAheadOfTheOrigin() {
        Check.sentence(0, CLAIM);
        Works x = new Works();
        x.sell(0, 0, 3);
        x.sell(0, 1, 4);
        Check.due("5 less 2 less 2", x.die(0, 5), 1);
        isThenOfTheDead(x, 4, 3);
        Works y = new Works();
        y.sell(0, 0, 50);
        y.load(0, 50, false);
        y.load(0, 50, false);
        Check.due("100 for three lots of 50: 33 each", y.die(0, 100), 1);
        isThenOfTheDead(y, 99, 51);
        Works two = seven();
        two.sell(1, 0, 500);
        two.load(2, 500, true);
        Check.due("another CHAIN has no CLAIM", two.die(0, 9), 0);
        isThenOfTheDead(two, 9, 0);
    }

    /** 60 LOTS of 500, some of them GRANTED: products of 9999 and 500. */
    private static void estateOfMoreThanAllNumbers() {
        Check.sentence(0, CLAIM);
        Works x = new Works();
        x.sell(0, 0, 500);
        for (int lot = 1; lot < 60; lot++) {
            x.load(0, 500, lot >= 20);
        }
        // CLAIM 10000: 499.95 of each of 20; 19 for 20000: 0.475 of each of 40.
        Check.due("what is left", x.die(0, 9999), 19);
        isThenOfTheDead(x, 20 * 499, 20 + 40 * 500);
        Works y = new Works();
        y.sell(0, 0, 500);
        for (int lot = 1; lot < 60; lot++) {
            y.load(0, 500, false);
        }
        // CLAIM 30000: 166.65 of each of 60.
        Check.due("what is left", y.die(0, 9999), 9999 - 60 * 166);
        isThenOfTheDead(y, 60 * 166, 60 * 334);
    }

    private static void estateIsLess() {
        Check.sentence(0, "The ESTATE is less by all that is PAID OUT.");
        Works x = new Works();
        x.sell(0, 0, 3);
        x.sell(0, 1, 4);
        x.load(0, 5, true);
        x.load(1, 5, true);
        // 6 pays 2 and 3 of the BOUGHT ones; 1 for 10 pays nothing.
        Check.due("what is left of 6", x.die(0, 6), 1);
        isThenOfTheDead(x, 5, 2 + 10);
        Works y = new Works();
        y.sell(0, 0, 3);
        y.load(0, 4, true);
        Check.due("what is left of 6", y.die(0, 6), 0);
        isThenOfTheDead(y, 6, 1);
    }

    private static void nothingLeft() {
        Check.sentence(0, "No LOT of these has anything LEFT then.");
        for (int estate : new int[] {0, 60, 77, 135, 9999}) {
            Works x = allOrigins();
            x.sell(1, 0, 8);
            Steps.freeze(x, 1);
            x.die(0, estate);
            for (int lot = 0; lot < 5; lot++) {
                Check.due("LEFT of lot " + lot, x.ofLot(lot, 2), 0);
            }
            Check.due("LEFT of another chain's", x.ofLot(5, 2), 8);
            Check.due("BALANCE", x.ofCard(0, 1) + x.ofCard(1, 1), 0);
            Check.due("ORDER", x.orderAt(1, 0), -1);
            Check.due("FROZEN it stays", x.ofCard(1, 0), 1);
            Steps.pass(x, 60);
            isThenOfTheDead(x, Math.min(135, estate), 135 - Math.min(135, estate));
            Check.due("no INCOME by that", x.ofChain(0, 4), 0);
            Check.due("no VOID by that", x.ofChain(0, 5), 0);
        }
    }

    // ---- promises 18 to 20: pass, die, month

    private static final String PASS = "Lets the next MONTH come; returns it. @throws IllegalStateException if it is 240";

    private static void pass() {
        Check.sentence(18, PASS);
        Works x = new Works();
        for (int month = 1; month <= 240; month++) {
            Check.due("pass", x.pass(), month);
        }
        Works y = card(24, 2, 50, 100);
        Check.due("with a CARD", y.pass(), 1);
        y.die(0, 0);
        Check.due("with a DEAD chain", y.pass(), 2);
    }

    private static void passBeyond() {
        Check.sentence(18, PASS);
        Works x = new Works();
        x.law(0, 60, 9, 50);
        Steps.pass(x, 228);
        x.sell(0, 0, 100);
        x.attempt(0, 0);
        Steps.pass(x, 11);
        x.attempt(0, 0);
        Check.due("239 to 240", x.pass(), 240);
        Check.due("a FEE in 240", x.ofCard(0, 1), 91);
        x.attempt(0, 0);
        Check.notNow("240 to 241: no FEE, and no MISS away", x, x::pass);
        Check.notNow("again", x, x::pass);
    }

    private static void die() {
        Check.sentence(19, "Lets a CHAIN die.");
        for (int chain = 0; chain <= 3; chain++) {
            Works x = new Works();
            for (int of = 0; of <= 3; of++) {
                x.sell(of, 0, 10);
            }
            x.die(chain, 4);
            for (int of = 0; of <= 3; of++) {
                Check.due("DEAD", x.ofChain(of, 8), of == chain ? 1 : 0);
                Check.due("LEFT", x.ofChain(of, 2), of == chain ? 0 : 10);
                Check.due("PAID OUT", x.ofChain(of, 6), of == chain ? 4 : 0);
                Check.due("LOST", x.ofChain(of, 7), of == chain ? 6 : 0);
            }
        }
    }

    private static void estateRange() {
        Check.sentence(19, "`estate`: 0 to 9999");
        Edges.range("estate", EdgesOfMonthsTest::seven, (x, estate) -> x.die(0, estate), 0, 9999);
        Check.due("0", seven().die(0, 0), 0);
        Check.due("9999", seven().die(0, 9999), 9990);
    }

    private static void dieAnswersWhatIsLeft() {
        Check.sentence(19, "Returns what is left of it.");
        Check.due("all that is there is paid, 0", seven().die(0, 9), 0);
        Check.due("1 more", seven().die(0, 10), 1);
        Check.due("1 less", seven().die(0, 8), 0);
        Check.due("of another chain", seven().die(1, 8), 8);
    }

    private static void dieWithoutChain() {
        Check.sentence(19, "Throws `IndexOutOfBoundsException` if there is no such CHAIN");
        Edges.places("chain", EdgesOfMonthsTest::seven, (x, chain) -> x.die(chain, 5), 4);
    }

    private static void dieOutOfRange() {
        Check.sentence(19, "Throws `IllegalArgumentException` if estate is out of range");
        Works x = seven();
        Check.outOfRange("-1", x, () -> x.die(0, -1));
        Check.outOfRange("10000", x, () -> x.die(0, 10000));
        Check.due("lives", x.ofChain(0, 8), 0);
        x.die(0, 0);
        Check.outOfRange("10000 of a DEAD one", x, () -> x.die(0, 10000));
    }

    private static void dieOfTheDead() {
        Check.sentence(19, "Throws `IllegalStateException` if it is DEAD");
        for (int chain = 0; chain <= 3; chain++) {
            Works x = seven();
            int dead = chain;
            x.die(dead, 3);
            Check.notNow("again, with nothing", x, () -> x.die(dead, 0));
            Check.notNow("again, with more", x, () -> x.die(dead, 9999));
        }
    }

    private static void month() {
        Check.sentence(20, "Returns the MONTH.");
        Works x = new Works();
        Check.due("at first", x.month(), 0);
        x.pass();
        Check.due("then", x.month(), 1);
        x.sell(0, 0, 5);
        x.die(0, 5);
        Check.due("whatever else is called", x.month(), 1);
        Steps.pass(x, 239);
        Check.due("in the end", x.month(), 240);
        Check.changesNothing("month", x, x::month);
    }
}
