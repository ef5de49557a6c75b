/** Promises 18 to 20: pass, die, month. */
final class MonthsTest {
    private MonthsTest() {
    }

    public static void main(String[] args) {
        passToTheEnd();
        lotsEnd();
        lotsEndByOrigin();
        eachLotIsRoundedByItself();
        fees();
        feeInOrder();
        feeBehindEnds();
        useTellsWhenFeesBegin();
        dieRich();
        diePoor();
        dieLeavesARest();
        dieOfOneChain();
        dieRefuses();
        Check.end();
    }

    private static void passToTheEnd() {
        Works x = new Works();
        for (int month = 1; month <= 240; month++) {
            Check.due("pass", x.pass(), month);
            Check.due("month", x.month(), month);
        }
        Check.notNow("pass beyond 240", x, x::pass);
        Check.due("month", x.month(), 240);
        x.law(0, 60, 0, 0);
        x.sell(0, 0, 1);
        Check.due("an END beyond 240", x.ofLot(0, 3), 300);
    }

    private static void lotsEnd() {
        Works x = new Works();
        x.law(2, 6, 0, 30);
        x.sell(1, 2, 99);
        Steps.pass(x, 5);
        Check.due("not yet", x.ofLot(0, 2), 99);
        x.pass();
        Check.due("nothing LEFT", x.ofLot(0, 2), 0);
        Check.due("OWED: 29.7, rounded down", x.owed(2, 1), 29);
        Check.due("INCOME is the rest", x.ofChain(1, 4), 70);
        Check.due("no VOID", x.ofChain(1, 5), 0);
        Check.due("owed to another land", x.owed(0, 1), 0);
        Check.due("owed by another chain", x.owed(2, 0), 0);
        x.pass();
        Check.due("once only", x.ofChain(1, 4), 70);
    }

    private static void lotsEndByOrigin() {
        Works x = new Works();
        x.law(0, 60, 0, 100);
        x.law(1, 6, 0, 100);
        x.sell(0, 0, 500);
        x.sell(0, 1, 50);
        x.pay(0, 100);
        x.pay(1, 20);
        x.load(0, 7, true);
        Steps.pass(x, 6);
        Check.due("GRANTED is VOID", x.ofChain(0, 5), 7);
        Check.due("BOUGHT is OWED", x.owed(1, 0), 30);
        x.convert(0, 10);
        x.giveBack(1, 20);
        Check.due("RETURNED comes", x.ofLot(4, 1), Voucherworks.RETURNED);
        Steps.pass(x, 2);
        Check.due("not yet", x.ofLot(4, 2), 20);
        x.pass();
        Check.due("RETURNED ends 3 MONTHS on", x.ofLot(4, 2), 0);
        Check.due("RETURNED is OWED", x.owed(1, 0), 50);
        Steps.pass(x, 8);
        Check.due("CONVERTED is not over yet", x.ofChain(0, 5), 7);
        x.pass();
        Check.due("CONVERTED is VOID", x.ofChain(0, 5), 9);
        Check.due("no INCOME", x.ofChain(0, 4), 0);
        Check.due("accounts", x.leftAnew(0), 400);
    }

    private static void eachLotIsRoundedByItself() {
        Works x = new Works();
        x.law(0, 6, 0, 50);
        x.sell(0, 0, 1);
        x.load(0, 1, false);
        x.load(0, 3, false);
        Steps.pass(x, 6);
        Check.due("0 and 0 and 1", x.owed(0, 0), 1);
        Check.due("1 and 1 and 2", x.ofChain(0, 4), 4);
    }

    private static void fees() {
        Works x = new Works();
        x.law(0, 0, 9, 0);
        x.sell(0, 0, 20);
        Steps.pass(x, 11);
        Check.due("no FEE in the 11th MONTH", x.ofCard(0, 1), 20);
        x.pass();
        Check.due("a FEE in the 12th", x.ofCard(0, 1), 11);
        Check.due("it is INCOME", x.ofChain(0, 4), 9);
        x.pass();
        Check.due("and in each one on", x.ofCard(0, 1), 2);
        x.pass();
        Check.due("the BALANCE if that is less", x.ofCard(0, 1), 0);
        Check.due("INCOME", x.ofChain(0, 4), 20);
        x.pass();
        Check.due("no more", x.ofChain(0, 4), 20);
        Check.due("a FEE is no USE", x.ofCard(0, 2), 0);
        Check.due("nothing is OWED", x.owed(0, 0), 0);
    }

    private static void feeInOrder() {
        Works x = new Works();
        x.law(0, 0, 5, 0);
        x.law(1, 60, 9, 0);
        x.sell(0, 0, 10);
        x.sell(0, 1, 3);
        x.sell(0, 1, 4);
        x.join(0, 2);
        x.join(0, 1);
        Steps.pass(x, 12);
        Check.due("first from the lower of two alike", x.ofLot(1, 2), 0);
        Check.due("then from the next", x.ofLot(2, 2), 2);
        Check.due("not yet from the one without END", x.ofLot(0, 2), 10);
        Check.due("a frozen card, too", x.ofCard(0, 0), Voucherworks.OPEN);
        Steps.freeze(x, 0);
        x.pass();
        Check.due("FEE of a frozen card", x.ofCard(0, 1), 7);
        Check.due("from the last lot", x.ofLot(0, 2), 7);
    }

    /** What ends in the MONTH is gone ahead of the FEE. */
    private static void feeBehindEnds() {
        Works x = new Works();
        x.law(0, 12, 4, 50);
        x.sell(0, 0, 10);
        Steps.pass(x, 12);
        Check.due("OWED half of all 10", x.owed(0, 0), 5);
        Check.due("INCOME the other half", x.ofChain(0, 4), 5);
        Works y = new Works();
        y.law(0, 12, 4, 50);
        y.law(1, 0, 4, 50);
        y.sell(0, 0, 10);
        y.sell(0, 1, 10);
        y.join(1, 0);
        Steps.pass(y, 12);
        Check.due("OWED to the land of the one card", y.owed(1, 0), 5);
        Check.due("the FEE from the other lot", y.ofLot(1, 2), 6);
        Check.due("INCOME of both", y.ofChain(0, 4), 9);
    }

    private static void useTellsWhenFeesBegin() {
        Works x = new Works();
        x.law(0, 0, 1, 0);
        for (int card = 0; card < 6; card++) {
            x.sell(0, 0, 300);
        }
        x.pay(3, 50);
        Steps.pass(x, 2);
        x.load(1, 1, false);
        x.pay(2, 1);
        x.convert(3, 5);
        x.join(4, 5);
        Steps.pass(x, 10);
        Check.due("FEE of the one that was only sold", x.ofCard(0, 1), 299);
        Check.due("no FEE of the loaded one", x.ofCard(1, 1), 301);
        Check.due("no FEE of the paying one", x.ofCard(2, 1), 299);
        Check.due("no FEE of the converting one", x.ofCard(3, 1), 251);
        Check.due("no FEE of the joined one", x.ofCard(4, 1), 600);
        Steps.pass(x, 2);
        Check.due("two MONTHS on: loaded", x.ofCard(1, 1), 300);
        Check.due("two MONTHS on: paying", x.ofCard(2, 1), 298);
        Check.due("two MONTHS on: converting, and its CONVERTED coin is VOID", x.ofCard(3, 1), 249);
        Check.due("two MONTHS on: joined", x.ofCard(4, 1), 599);
    }

    /** A chain with a lot of each ORIGIN: 60 BOUGHT, 40 RETURNED, 5 CONVERTED, 30 GRANTED. */
    private static Works allOrigins() {
        Works x = new Works();
        x.law(0, 6, 0, 0);
        x.law(1, 0, 0, 0);
        x.sell(0, 0, 400);
        x.pay(0, 400);
        Steps.pass(x, 6);
        x.sell(0, 1, 60);
        x.convert(0, 25);
        x.giveBack(0, 40);
        x.load(1, 30, true);
        return x;
    }

    private static void dieRich() {
        Works x = allOrigins();
        Check.due("what is LEFT", x.ofChain(0, 2), 135);
        Check.due("die with 9999", x.die(0, 9999), 9999 - 135);
        Check.due("PAID OUT", x.ofChain(0, 6), 135);
        Check.due("LOST", x.ofChain(0, 7), 0);
        Check.due("nothing LEFT", x.ofChain(0, 2), 0);
        Check.due("DEAD", x.ofChain(0, 8), 1);
        Check.due("accounts", x.leftAnew(0), 0);
        Check.due("NET stays", x.ofChain(0, 3), 360);
        Works y = allOrigins();
        Check.due("die with just enough", y.die(0, 135), 0);
        Check.due("PAID OUT", y.ofChain(0, 6), 135);
    }

    private static void diePoor() {
        Works x = allOrigins();
        Check.due("BOUGHT, RETURNED, CONVERTED and 12 of GRANTED", x.die(0, 117), 0);
        Check.due("PAID OUT", x.ofChain(0, 6), 117);
        Check.due("LOST", x.ofChain(0, 7), 18);
        Works y = allOrigins();
        Check.due("half of BOUGHT alone", y.die(0, 30), 0);
        Check.due("PAID OUT", y.ofChain(0, 6), 30);
        Check.due("LOST", y.ofChain(0, 7), 105);
        Works z = allOrigins();
        Check.due("nothing", z.die(0, 0), 0);
        Check.due("PAID OUT", z.ofChain(0, 6), 0);
        Check.due("LOST", z.ofChain(0, 7), 135);
        Check.due("accounts", z.leftAnew(0), 0);
    }

    /** Each lot is rounded down by the ESTATE ahead of its ORIGIN; what that leaves goes on. */
    private static void dieLeavesARest() {
        Works x = new Works();
        x.sell(0, 0, 1);
        x.sell(0, 1, 1);
        x.load(0, 1, false);
        Check.due("2 for 3 lots of 1: nothing for each", x.die(0, 2), 2);
        Check.due("LOST", x.ofChain(0, 7), 3);
        Works w = new Works();
        w.sell(0, 0, 1);
        w.die(0, 0);
        Check.due("a single coin, and no ESTATE", w.ofChain(0, 7), 1);
        Works y = new Works();
        y.sell(0, 0, 10);
        y.load(0, 11, false);
        y.load(0, 12, false);
        y.load(0, 2, true);
        y.load(0, 5, true);
        // 20 for 33: 6, 6 and 7; 1 for 7: 0 and 0.
        Check.due("what is left in the end", y.die(0, 20), 1);
        Check.due("PAID OUT", y.ofChain(0, 6), 19);
        Check.due("LOST", y.ofChain(0, 7), 21);
        Works z = new Works();
        z.sell(0, 0, 10);
        z.load(0, 11, false);
        z.load(0, 1, true);
        // 20 for 21: 9 and 10; the 1 that is left pays the gift.
        Check.due("the rest goes to the next ORIGIN", z.die(0, 20), 0);
        Check.due("PAID OUT", z.ofChain(0, 6), 20);
        Check.due("LOST", z.ofChain(0, 7), 2);
    }

    private static void dieOfOneChain() {
        Works x = new Works();
        x.sell(0, 0, 10);
        x.sell(1, 0, 20);
        x.die(0, 5);
        Check.due("another chain lives", x.ofChain(1, 8), 0);
        Check.due("its coins are LEFT", x.ofChain(1, 2), 20);
        Check.due("the card stays OPEN", x.ofCard(0, 0), Voucherworks.OPEN);
        Check.due("empty lots are in no ORDER", x.orderAt(0, 0), Voucherworks.NONE);
        Steps.pass(x, 30);
        Check.due("no INCOME of the dead chain", x.ofChain(0, 4), 0);
        Check.due("nothing OWED by it", x.owed(0, 0), 0);
        Check.due("die without cards", x.die(3, 77), 77);
    }

    private static void dieRefuses() {
        Works x = new Works();
        x.sell(0, 0, 10);
        Check.noSuch("die(-1)", x, () -> x.die(-1, 0));
        Check.noSuch("die(4)", x, () -> x.die(4, -1));
        Check.outOfRange("die with -1", x, () -> x.die(0, -1));
        Check.outOfRange("die with 10000", x, () -> x.die(0, 10000));
        x.die(0, 3);
        Check.notNow("die again", x, () -> x.die(0, 3));
        Check.outOfRange("die again with 10000", x, () -> x.die(0, 10000));
    }
}
