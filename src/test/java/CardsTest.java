/** Promises 1 to 5: a new object, law, rate, sell, load. */
final class CardsTest {
    private CardsTest() {
    }

    public static void main(String[] args) {
        newObject();
        law();
        lawAtFirst();
        lawIsKept();
        lawRefuses();
        rate();
        rateRefuses();
        sell();
        sellRefuses();
        sellRefusesWhenFull();
        load();
        loadRefuses();
        Check.end();
    }

    private static void newObject() {
        Works x = new Works();
        Check.due("month of a new object", x.month(), 0);
        Check.noSuch("ofCard(0, 0) of a new object", x, () -> x.ofCard(0, 0));
        Check.noSuch("ofLot(0, 0) of a new object", x, () -> x.ofLot(0, 0));
        Check.noSuch("ofPayment(0, 0) of a new object", x, () -> x.ofPayment(0, 0));
        Check.due("best(100) of a new object", x.best(100), 100);
        Check.due("the first campaign of a new object", x.campaign(false, 1, 0), 0);
        for (int chain = 0; chain < 4; chain++) {
            for (int what = 0; what <= 8; what++) {
                Check.due("ofChain of a new object", x.ofChain(chain, what), 0);
            }
            for (int land = 0; land < 3; land++) {
                Check.due("owed of a new object", x.owed(land, chain), 0);
            }
        }
    }

    private static void law() {
        Works x = new Works();
        for (int land = 0; land < 3; land++) {
            Check.due("law at first", x.law(land, 0, 0, 0), 24);
            Check.due("law then", x.law(land, 6, 9, 100), 0);
            Check.due("law after 6", x.law(land, 60, 9, 100), 6);
            Check.due("law after 60", x.law(land, 24, 2, 50), 60);
        }
        x.law(1, 7, 3, 20);
        Check.due("the law of another land stays", x.law(2, 8, 0, 0), 24);
        Check.due("the law of this land", x.law(1, 8, 0, 0), 7);
    }

    private static void lawAtFirst() {
        Works x = new Works();
        for (int land = 0; land < 3; land++) {
            x.sell(land, land, 500);
        }
        Steps.pass(x, 23);
        for (int land = 0; land < 3; land++) {
            Check.due("LIFE at first", x.ofCard(land, 7), 24);
            Check.due("12 FEES of 2", x.ofChain(land, 4), 24);
            x.load(land, 1, true);
        }
        x.pass();
        for (int land = 0; land < 3; land++) {
            Check.due("SHARE of 50 hundredths", x.owed(land, land), 238);
            Check.due("the other half", x.ofChain(land, 4), 24 + 238);
        }
    }

    /** LIFE, FEE and SHARE are the card's for good as it is sold. */
    private static void lawIsKept() {
        Works x = new Works();
        x.law(0, 13, 4, 10);
        x.sell(0, 0, 100);
        x.law(0, 6, 9, 100);
        x.sell(1, 0, 100);
        Check.due("LIFE of the card sold ahead of the law", x.ofCard(0, 7), 13);
        Check.due("LIFE of the card sold behind it", x.ofCard(1, 7), 6);
        x.load(0, 1, false);
        Check.due("END of a lot loaded behind the law", x.ofLot(2, 3), 13);
        Steps.pass(x, 12);
        Check.due("the FEE that the card keeps", x.ofChain(0, 4), 4);
        x.pass();
        Check.due("the SHARE that the card keeps", x.owed(0, 0), 96 * 10 / 100);
        Check.due("all of the other card's coins go to the land", x.owed(0, 1), 100);
    }

    private static void lawRefuses() {
        Works x = new Works();
        Check.noSuch("law(-1)", x, () -> x.law(-1, 24, 2, 50));
        Check.noSuch("law(3)", x, () -> x.law(3, 24, 2, 50));
        Check.noSuch("law(3) with all wrong", x, () -> x.law(3, 1, 10, 101));
        for (int life : new int[] {-1, 1, 5, 61, Integer.MIN_VALUE, Integer.MAX_VALUE}) {
            Check.outOfRange("law with LIFE " + life, x, () -> x.law(0, life, 9, 99));
        }
        Check.outOfRange("law with FEE -1", x, () -> x.law(0, 6, -1, 99));
        Check.outOfRange("law with FEE 10", x, () -> x.law(0, 6, 10, 99));
        Check.outOfRange("law with SHARE -1", x, () -> x.law(0, 6, 9, -1));
        Check.outOfRange("law with SHARE 101", x, () -> x.law(0, 6, 9, 101));
        x.sell(0, 0, 100);
        Check.due("a refused law has set no LIFE", x.ofCard(0, 7), 24);
        Steps.pass(x, 24);
        Check.due("a refused law has set no FEE: 12 fees of 2, and half of the rest",
            x.ofChain(0, 4), 12 * 2 + 76 / 2);
        Check.due("a refused law has set no SHARE", x.owed(0, 0), 38);
    }

    private static void rate() {
        Works x = new Works();
        Check.due("rate at first", x.rate(3, 100), 0);
        Check.due("rate then", x.rate(3, 0), 100);
        Check.due("rate of another chain", x.rate(0, 7), 0);
        Check.due("rate stays with its chain", x.rate(3, 1), 0);
        Check.due("rate of the other one", x.rate(0, 8), 7);
    }

    private static void rateRefuses() {
        Works x = new Works();
        x.rate(0, 5);
        Check.noSuch("rate(-1)", x, () -> x.rate(-1, 5));
        Check.noSuch("rate(4)", x, () -> x.rate(4, 5));
        Check.noSuch("rate(4, 101)", x, () -> x.rate(4, 101));
        Check.outOfRange("rate(0, -1)", x, () -> x.rate(0, -1));
        Check.outOfRange("rate(0, 101)", x, () -> x.rate(0, 101));
        Check.due("a refused rate is not set", x.rate(0, 6), 5);
        x.die(0, 0);
        Check.due("a dead chain has a rate, too", x.rate(0, 7), 6);
    }

    private static void sell() {
        Works x = new Works();
        Check.due("sell", x.sell(3, 2, 500), 0);
        Steps.pass(x, 5);
        x.law(1, 0, 1, 1);
        Check.due("the next sell", x.sell(0, 1, 1), 1);
        Check.due("OPEN", x.ofCard(0, 0), Voucherworks.OPEN);
        Check.due("BALANCE", x.ofCard(0, 1), 500);
        Check.due("USE", x.ofCard(0, 2), 0);
        Check.due("USE of the later one", x.ofCard(1, 2), 5);
        Check.due("MISSES", x.ofCard(1, 3), 0);
        Check.due("LIFE", x.ofCard(1, 7), 0);
        Check.due("lot's card", x.ofLot(1, 0), 1);
        Check.due("lot's ORIGIN", x.ofLot(1, 1), Voucherworks.BOUGHT);
        Check.due("lot's LEFT", x.ofLot(1, 2), 1);
        Check.due("lot's END without LIFE", x.ofLot(1, 3), Voucherworks.NONE);
        Check.due("lot's BEGIN", x.ofLot(1, 4), 5);
        Check.due("END by LIFE", x.ofLot(0, 3), 24);
        Check.due("received", x.ofChain(3, 0), 500);
        Check.due("received by the other chain", x.ofChain(0, 0), 1);
        Check.due("nothing came as a gift", x.ofChain(3, 1), 0);
    }

    private static void sellRefuses() {
        Works x = new Works();
        Check.noSuch("sell of chain -1", x, () -> x.sell(-1, 0, 1));
        Check.noSuch("sell of chain 4", x, () -> x.sell(4, 0, 0));
        Check.noSuch("sell in land -1", x, () -> x.sell(0, -1, 1));
        Check.noSuch("sell in land 3", x, () -> x.sell(0, 3, 501));
        Check.outOfRange("sell of 0 coins", x, () -> x.sell(0, 0, 0));
        Check.outOfRange("sell of 501 coins", x, () -> x.sell(0, 0, 501));
        Check.outOfRange("sell of -1 coins", x, () -> x.sell(0, 0, -1));
        x.die(2, 0);
        Check.notNow("sell of a dead chain", x, () -> x.sell(2, 0, 1));
        Check.outOfRange("sell of 0 coins of a dead chain", x, () -> x.sell(2, 0, 0));
        Check.due("another chain lives", x.sell(1, 0, 1), 0);
    }

    private static void sellRefusesWhenFull() {
        Works x = new Works();
        for (int card = 0; card < 12; card++) {
            Check.due("sell", x.sell(card % 4, card % 3, 1), card);
        }
        Check.notNow("sell of the 13th card", x, () -> x.sell(0, 0, 1));
        Check.outOfRange("sell of the 13th card, without coins", x, () -> x.sell(0, 0, 0));
        Works y = new Works();
        y.sell(0, 0, 1);
        for (int lot = 1; lot < 59; lot++) {
            y.load(0, 1, true);
        }
        Check.due("sell with the 60th lot", y.sell(0, 0, 1), 1);
        Check.notNow("sell with a 61st lot", y, () -> y.sell(0, 0, 1));
    }

    private static void load() {
        Works x = new Works();
        x.sell(1, 0, 10);
        Steps.pass(x, 2);
        Check.due("load BOUGHT", x.load(0, 500, false), 510);
        Check.due("USE", x.ofCard(0, 2), 2);
        Check.due("ORIGIN", x.ofLot(1, 1), Voucherworks.BOUGHT);
        Check.due("END", x.ofLot(1, 3), 26);
        Check.due("BEGIN", x.ofLot(1, 4), 2);
        Steps.pass(x, 1);
        Check.due("load GRANTED", x.load(0, 1, true), 511);
        Check.due("USE by a gift", x.ofCard(0, 2), 3);
        Check.due("ORIGIN", x.ofLot(2, 1), Voucherworks.GRANTED);
        Check.due("END of a gift", x.ofLot(2, 3), 9);
        Check.due("received", x.ofChain(1, 0), 510);
        Check.due("came", x.ofChain(1, 1), 1);
        Steps.freeze(x, 0);
        Check.due("load of a frozen card", x.load(0, 9, false), 520);
        Check.due("it stays frozen", x.ofCard(0, 0), Voucherworks.FROZEN);
    }

    private static void loadRefuses() {
        Works x = new Works();
        Check.noSuch("load without cards", x, () -> x.load(0, 1, false));
        x.sell(0, 0, 1);
        x.sell(0, 0, 1);
        x.sell(1, 0, 1);
        Check.noSuch("load(-1)", x, () -> x.load(-1, 0, false));
        Check.noSuch("load(3)", x, () -> x.load(3, 1, true));
        Check.outOfRange("load of 0", x, () -> x.load(0, 0, false));
        Check.outOfRange("load of 501", x, () -> x.load(0, 501, true));
        x.join(0, 1);
        Check.notNow("load of a closed card", x, () -> x.load(1, 1, false));
        Check.outOfRange("load of 0 on a closed card", x, () -> x.load(1, 0, false));
        x.die(1, 0);
        Check.notNow("load of a dead chain's card", x, () -> x.load(2, 1, true));
        Steps.fillLots(x, 0);
        Check.due("60 lots", x.ofLot(59, 2), 1);
        Check.notNow("load of a 61st lot", x, () -> x.load(0, 1, false));
        Check.notNow("load of a 61st lot, granted", x, () -> x.load(0, 1, true));
    }
}
