/** Promises 15 to 17: join, attempt, free. */
final class JoinTest {
    private JoinTest() {
    }

    public static void main(String[] args) {
        join();
        joinMovesMarks();
        joinKeepsTheOnesLaw();
        joinRefuses();
        attempt();
        attemptRefuses();
        codes();
        allCodes();
        free();
        Check.end();
    }

    private static void join() {
        Works x = new Works();
        x.sell(1, 0, 100);
        x.sell(1, 2, 30);
        x.load(1, 5, true);
        x.attempt(0, 0);
        x.attempt(1, 0);
        x.attempt(1, 0);
        Steps.pass(x, 1);
        x.attempt(0, 0);
        x.attempt(1, 0);
        Check.due("join", x.join(0, 1), 135);
        Check.due("the other is CLOSED", x.ofCard(1, 0), Voucherworks.CLOSED);
        Check.due("without MISSES", x.ofCard(1, 3), 0);
        Check.due("BALANCE of the other", x.ofCard(1, 1), 0);
        Check.due("USE of the other stays", x.ofCard(1, 2), 0);
        Check.due("the one is OPEN", x.ofCard(0, 0), Voucherworks.OPEN);
        Check.due("MISSES of the one stay", x.ofCard(0, 3), 1);
        Check.due("USE of the one", x.ofCard(0, 2), 1);
        Check.due("lots are the one's", x.ofLot(1, 0), 0);
        Check.due("gifts, too", x.ofLot(2, 0), 0);
        Check.due("END stays", x.ofLot(1, 3), 24);
        Check.due("BEGIN stays", x.ofLot(1, 4), 0);
        Check.due("orderAt of the one", x.orderAt(0, 0), 2);
        Check.due("orderAt of the other", x.orderAt(1, 0), Voucherworks.NONE);
        Check.due("received stays", x.ofChain(1, 0), 130);
        Check.due("free does not open a closed card", x.free(1), false);
        Check.due("it stays CLOSED", x.ofCard(1, 0), Voucherworks.CLOSED);
        Steps.pass(x, 40);
        Check.due("CLOSED for good", x.ofCard(1, 0), Voucherworks.CLOSED);
    }

    private static void joinMovesMarks() {
        Works x = new Works();
        x.sell(0, 0, 300);
        x.sell(0, 0, 300);
        x.pay(0, 100);
        x.pay(1, 150);
        Steps.pass(x, 2);
        x.convert(0, 5);
        x.convert(1, 10);
        x.pay(1, 40);
        Check.due("MARKS of the one", x.ofCard(0, 5), 5);
        x.join(0, 1);
        Check.due("MARKS of both", x.ofCard(0, 5), 10);
        Check.due("PENDING of both", x.ofCard(0, 6), 4);
        Check.due("MARKS of the other", x.ofCard(1, 5), 0);
        Check.due("PENDING of the other", x.ofCard(1, 6), 0);
        Check.due("payments are the one's", x.ofPayment(1, 0), 0);
        Check.due("the later one, too", x.ofPayment(2, 0), 0);
        Check.due("convert all of it", x.convert(0, 10), 2);
        x.sell(0, 0, 1);
        Check.due("join into a third one", x.join(2, 0), 600 - 290 + 3 + 2 + 1);
        Check.due("MARKS went along", x.ofCard(2, 5), 0);
        Check.due("payments went along", x.ofPayment(1, 0), 2);
    }

    private static void joinKeepsTheOnesLaw() {
        Works x = new Works();
        x.law(0, 20, 0, 0);
        x.law(1, 6, 9, 100);
        x.sell(0, 0, 10);
        x.sell(0, 1, 50);
        x.join(0, 1);
        Check.due("LIFE of the one", x.ofCard(0, 7), 20);
        Check.due("LIFE of the other", x.ofCard(1, 7), 6);
        Steps.pass(x, 6);
        Check.due("the lot ends as it was to", x.ofLot(1, 2), 0);
        Check.due("by the SHARE of the one", x.ofChain(0, 4), 50);
        Check.due("nothing for the other's land", x.owed(1, 0), 0);
        Steps.pass(x, 6);
        Check.due("by the FEE of the one", x.ofLot(0, 2), 10);
    }

    private static void joinRefuses() {
        Works x = new Works();
        x.sell(0, 0, 10);
        x.sell(0, 0, 10);
        x.sell(1, 0, 10);
        x.sell(0, 0, 10);
        Check.noSuch("join(4, 0)", x, () -> x.join(4, 0));
        Check.noSuch("join(0, 4)", x, () -> x.join(0, 4));
        Check.noSuch("join(-1, 0)", x, () -> x.join(-1, 0));
        Check.noSuch("join(0, -1)", x, () -> x.join(0, -1));
        Check.noSuch("join(4, 4), where there is none and both are the same", x, () -> x.join(4, 4));
        Check.outOfRange("join(1, 1)", x, () -> x.join(1, 1));
        Check.notNow("join of unlike chains", x, () -> x.join(0, 2));
        Steps.freeze(x, 1);
        Check.notNow("join of a frozen one", x, () -> x.join(0, 1));
        Check.notNow("join to a frozen one", x, () -> x.join(1, 0));
        Check.outOfRange("join of a frozen one to itself", x, () -> x.join(1, 1));
        x.join(0, 3);
        Check.notNow("join of a closed one", x, () -> x.join(0, 3));
        Check.notNow("join to a closed one", x, () -> x.join(3, 0));
        x.free(1);
        x.die(0, 0);
        Check.notNow("join in a dead chain", x, () -> x.join(0, 1));
    }

    private static void attempt() {
        Works x = new Works();
        x.sell(0, 0, 10);
        Check.due("a wrong one", x.attempt(0, 27181), false);
        Check.due("a MISS", x.ofCard(0, 3), 1);
        Check.due("another wrong one", x.attempt(0, 99999), false);
        Check.due("two MISSES", x.ofCard(0, 3), 2);
        Check.due("the right one", x.attempt(0, 27182), true);
        Check.due("no MISS", x.ofCard(0, 3), 0);
        Check.due("OPEN", x.ofCard(0, 0), Voucherworks.OPEN);
        x.attempt(0, 0);
        x.attempt(0, 0);
        Check.due("the third wrong one", x.attempt(0, 0), false);
        Check.due("FROZEN", x.ofCard(0, 0), Voucherworks.FROZEN);
        Check.due("no MISS any more", x.ofCard(0, 3), 0);
        Check.due("attempts are no USE", x.ofCard(0, 2), 0);
        x.free(0);
        x.attempt(0, 0);
        x.attempt(0, 0);
        x.pass();
        Check.due("no MISS behind a MONTH", x.ofCard(0, 3), 0);
        x.attempt(0, 0);
        x.attempt(0, 0);
        Check.due("still OPEN", x.ofCard(0, 0), Voucherworks.OPEN);
        x.die(0, 0);
        Check.due("the right one at a dead chain's card", x.attempt(0, 27182), true);
    }

    private static void attemptRefuses() {
        Works x = new Works();
        Check.noSuch("attempt without cards", x, () -> x.attempt(0, 27182));
        x.sell(0, 0, 10);
        x.sell(0, 0, 10);
        x.sell(0, 0, 10);
        Check.noSuch("attempt(-1)", x, () -> x.attempt(-1, 0));
        Check.noSuch("attempt(3)", x, () -> x.attempt(3, -1));
        Check.outOfRange("attempt of -1", x, () -> x.attempt(0, -1));
        Check.outOfRange("attempt of 100000", x, () -> x.attempt(0, 100000));
        Steps.freeze(x, 0);
        Check.notNow("attempt at a frozen card", x, () -> x.attempt(0, 27182));
        Check.outOfRange("attempt of -1 at a frozen card", x, () -> x.attempt(0, -1));
        x.join(1, 2);
        Check.notNow("attempt at a closed card", x, () -> x.attempt(2, 0));
    }

    /** Worked by hand: the digits of the NUMBER, times 1, 3, 7 and 9. */
    private static void codes() {
        Works x = new Works();
        x.sell(0, 0, 1);
        x.sell(3, 2, 1);
        x.sell(2, 1, 1);
        Check.due("NUMBER 2718: 2 + 21 + 7 + 72", x.ofCard(0, 4), 27182);
        // 3571 + 2931 + 262 + 2718 = 9482: 9 + 12 + 56 + 18 = 95.
        Check.due("NUMBER 9482", x.ofCard(1, 4), 94825);
        // 7142 + 1954 + 131 + 2718 = 11945: NUMBER 1945: 1 + 27 + 28 + 45 = 101.
        Check.due("NUMBER 1945", x.ofCard(2, 4), 19451);
        for (int card = 3; card < 12; card++) {
            x.sell(card % 4, card % 3, 1);
        }
        // 11 * 3571 + 3 * 977 + 2 * 131 + 2718 = 45192: NUMBER 5192: 5 + 3 + 63 + 18 = 89.
        Check.due("NUMBER 5192", x.ofCard(11, 4), 51929);
        Check.due("it is right", x.attempt(11, 51929), true);
    }

    /** Each of the 12 cards in each of the 12 pairs of a chain and a land, by the digits of the NUMBER. */
    private static void allCodes() {
        for (int shift = 0; shift < 12; shift++) {
            Works x = new Works();
            for (int card = 0; card < 12; card++) {
                int chain = (card + shift) % 4;
                int land = (card + shift) % 12 / 4;
                x.sell(chain, land, 1);
                String digits = String.format("%04d", (3571 * card + 977 * chain + 131 * land + 2718) % 10000);
                int sum = digits.charAt(0) + 3 * digits.charAt(1) + 7 * digits.charAt(2) + 9 * digits.charAt(3) - 20 * '0';
                Check.due("CODE", x.ofCard(card, 4), Integer.parseInt(digits + sum % 10));
            }
        }
    }

    private static void free() {
        Works x = new Works();
        Check.noSuch("free without cards", x, () -> x.free(0));
        x.sell(0, 0, 10);
        Check.noSuch("free(-1)", x, () -> x.free(-1));
        Check.noSuch("free(1)", x, () -> x.free(1));
        x.attempt(0, 0);
        Check.due("free an open card", x.free(0), false);
        Check.due("its MISS stays", x.ofCard(0, 3), 1);
        x.attempt(0, 0);
        x.attempt(0, 0);
        Steps.pass(x, 1);
        Check.due("FROZEN behind a MONTH, too", x.ofCard(0, 0), Voucherworks.FROZEN);
        x.die(0, 0);
        Check.due("free a frozen card of a dead chain", x.free(0), true);
        Check.due("OPEN", x.ofCard(0, 0), Voucherworks.OPEN);
        Check.due("free it again", x.free(0), false);
        Check.due("freeing is no USE", x.ofCard(0, 2), 0);
    }
}
