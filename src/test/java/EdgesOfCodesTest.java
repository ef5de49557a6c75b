/** The ends of what the document says of joining and of CODES, and in promises 15 to 17. */
final class EdgesOfCodesTest {
    private EdgesOfCodesTest() {
    }

    public static void main(String[] args) {
        joinMovesLots();
        joinMovesPayments();
        joinMovesWhatWasConverted();
        joinMovesWhatComesLater();
        closedForGood();
        withoutMisses();
        codesByHand();
        codeOfASmallNumber();
        codeWrapsAtTenThousand();
        codeOfTheLastCard();
        codeAfterJoining();
        thirdMiss();
        rightOneTakesMissesAway();
        noMissAnyMore();
        missesAreOfACard();
        missesAndMonths();
        join();
        joinOfEmptyCards();
        joinAnswersTheBalance();
        joinWithoutCard();
        joinOfTheSame();
        joinOfOneNotOpen();
        joinOfUnlikeChains();
        joinOfTheDead();
        attempt();
        attemptRange();
        attemptAnswers();
        attemptWithoutCard();
        attemptOutOfRange();
        attemptOfOneNotOpen();
        free();
        freeAnswers();
        freeWithoutCard();
        Check.end();
    }

    /** CARDS of chain 0 in land 0, with so many coins without END, and without FEES. */
    private static Works cards(int... coins) {
        Works x = new Works();
        x.law(0, 0, 0, 0);
        for (int of : coins) {
            x.sell(0, 0, of);
        }
        return x;
    }

    // ---- joining

    private static final String JOIN = "To join another CARD to one: all LOTS and PAYMENTS of the other one, and what was"
        + " converted for it, are the one's from then on; the other one is CLOSED for good, without MISSES.";

    private static void joinMovesLots() {
        Check.sentence(0, JOIN);
        Works x = cards(1, 2, 4);
        x.load(2, 8, true);
        x.load(1, 16, false);
        x.pay(2, 12);
        x.join(0, 2);
        int[] on = {0, 1, 0, 0, 1};
        for (int lot = 0; lot < 5; lot++) {
            Check.due("CARD of lot " + lot, x.ofLot(lot, 0), on[lot]);
        }
        Check.due("BALANCE of the one", x.ofCard(0, 1), 1);
        Check.due("of the other", x.ofCard(2, 1), 0);
        Check.due("of a third", x.ofCard(1, 1), 18);
        x.giveBack(0, 12);
        Check.due("LOTS without coins moved, too", x.ofCard(0, 1), 13);
    }

    private static void joinMovesPayments() {
        Check.sentence(0, JOIN);
        Works x = cards(100, 100, 100);
        x.pay(0, 10);
        x.pay(1, 20);
        x.pay(2, 30);
        x.pay(1, 20);
        x.giveBack(3, 20);
        x.join(2, 1);
        int[] of = {0, 2, 2, 2};
        for (int payment = 0; payment < 4; payment++) {
            Check.due("CARD of payment " + payment, x.ofPayment(payment, 0), of[payment]);
        }
        Check.due("PENDING of the one", x.ofCard(2, 6), 5);
        Check.due("PENDING of the other", x.ofCard(1, 6), 0);
        Check.due("PENDING of a third", x.ofCard(0, 6), 1);
        Check.due("taken stays", x.taken(1, 1), 20);
    }

    private static void joinMovesWhatWasConverted() {
        Check.sentence(0, JOIN);
        Works x = cards(100, 200);
        x.pay(0, 50);
        x.pay(1, 150);
        Steps.pass(x, 2);
        x.convert(1, 10);
        x.join(0, 1);
        Check.due("5, and 15 less 10", x.ofCard(0, 5), 10);
        Check.due("of the other", x.ofCard(1, 5), 0);
        Works y = cards(100, 200);
        y.pay(1, 50);
        Steps.pass(y, 2);
        y.convert(1, 5);
        y.giveBack(0, 10);
        Check.due("below 0", y.ofCard(1, 5), -1);
        y.join(0, 1);
        Check.due("below 0 of the one", y.ofCard(0, 5), -1);
        Check.due("0 of the other", y.ofCard(1, 5), 0);
        Works both = cards(100, 200);
        both.pay(0, 70);
        both.pay(1, 150);
        Steps.pass(both, 2);
        both.convert(0, 5);
        both.convert(1, 10);
        both.join(0, 1);
        Check.due("7 and 15, less 5 and 10", both.ofCard(0, 5), 7);
        Check.notNow("10 of 7", both, () -> both.convert(0, 10));
    }

    /** What comes of the moved LOTS and PAYMENTS comes to the one. */
    private static void joinMovesWhatComesLater() {
        Check.sentence(0, JOIN);
        Works x = new Works();
        x.law(0, 0, 0, 0);
        x.law(1, 6, 9, 100);
        x.sell(0, 0, 5);
        x.sell(0, 1, 80);
        x.pay(1, 50);
        x.join(0, 1);
        Steps.pass(x, 6);
        Check.due("LIFE of the other, LAND and SHARE of the one", x.ofChain(0, 4), 30);
        Check.due("nothing OWED", x.owed(1, 0), 0);
        x.giveBack(0, 10);
        Check.due("a RETURNED lot of the one", x.ofCard(0, 1), 15);
        x.load(0, 1, false);
        Check.due("END by the LIFE of the one", x.ofLot(3, 3), -1);
    }

    private static void closedForGood() {
        Check.sentence(0, JOIN);
        Works x = cards(1, 1, 1);
        x.join(0, 1);
        Check.due("CLOSED", x.ofCard(1, 0), 2);
        x.free(1);
        Check.due("behind freeing", x.ofCard(1, 0), 2);
        x.pass();
        Check.due("behind a MONTH", x.ofCard(1, 0), 2);
        x.join(2, 0);
        Check.due("behind another joining", x.ofCard(1, 0), 2);
        x.die(0, 0);
        Check.due("behind a death", x.ofCard(1, 0), 2);
        Check.due("the one of a death stays OPEN", x.ofCard(2, 0), 0);
    }

    private static void withoutMisses() {
        Check.sentence(0, JOIN);
        Works x = cards(1, 1);
        x.attempt(0, 0);
        x.attempt(1, 0);
        x.attempt(1, 0);
        x.join(0, 1);
        Check.due("MISSES of the other", x.ofCard(1, 3), 0);
        Check.due("MISSES of the one stay", x.ofCard(0, 3), 1);
        x.attempt(0, 0);
        Check.due("they are not joined", x.ofCard(0, 0), 0);
        x.attempt(0, 0);
        Check.due("the third one of its own", x.ofCard(0, 0), 1);
    }

    // ---- CODES

    private static final String CODE = "The NUMBER of a CARD is 3571 times its number, 977 times its CHAIN, 131 times its LAND,"
        + " and 2718, together, modulo 10000; its CODE is 10 times the NUMBER, and the remainder by 10 of its digit for"
        + " thousands, 3 times that for hundreds, 7 times that for tens, and 9 times the last one, together.";

    private static void codesByHand() {
        Check.sentence(0, CODE);
        Works x = new Works();
        x.sell(0, 0, 1);
        x.sell(0, 0, 1);
        x.sell(3, 0, 1);
        x.sell(0, 2, 1);
        // 2718: 2 + 21 + 7 + 72 = 102.
        Check.due("CODE of card 0", x.ofCard(0, 4), 27182);
        // 6289: 6 + 6 + 56 + 81 = 149.
        Check.due("CODE of card 1", x.ofCard(1, 4), 62899);
        // 7142 + 2931 + 2718 = 12791, so 2791: 2 + 21 + 63 + 9 = 95.
        Check.due("CODE of card 2", x.ofCard(2, 4), 27915);
        // 10713 + 262 + 2718 = 13693, so 3693: 3 + 18 + 63 + 27 = 111.
        Check.due("CODE of card 3", x.ofCard(3, 4), 36931);
    }

    /** 7142 + 977 + 2718 = 10837: the NUMBER is 837, and 0 + 24 + 21 + 63 = 108. */
    private static void codeOfASmallNumber() {
        Check.sentence(0, CODE);
        Works x = cards(1, 1);
        x.sell(1, 0, 1);
        Check.due("CODE without thousands", x.ofCard(2, 4), 8378);
        Check.due("it is right", x.attempt(2, 8378), true);
        Check.due("the digits alone are wrong", x.attempt(2, 837), false);
    }

    /** 7142 + 131 + 2718 = 9991 is just below, 7142 + 262 + 2718 = 10122 above. */
    private static void codeWrapsAtTenThousand() {
        Check.sentence(0, CODE);
        Works below = cards(1, 1);
        below.sell(0, 1, 1);
        // 9991: 9 + 27 + 63 + 9 = 108.
        Check.due("CODE of 9991", below.ofCard(2, 4), 99918);
        Works above = cards(1, 1);
        above.sell(0, 2, 1);
        // 0122: 0 + 3 + 14 + 18 = 35.
        Check.due("CODE of 122", above.ofCard(2, 4), 1225);
    }

    /** 39281 + 2931 + 262 + 2718 = 45192: 5 + 3 + 63 + 18 = 89. */
    private static void codeOfTheLastCard() {
        Check.sentence(0, CODE);
        Works x = cards(1, 1, 1, 1, 1, 1, 1, 1, 1, 1, 1);
        x.sell(3, 2, 1);
        Check.due("CODE of card 11", x.ofCard(11, 4), 51929);
        // 35710 + 2718 = 38428: 8 + 12 + 14 + 72 = 106.
        Check.due("CODE of card 10", x.ofCard(10, 4), 84286);
    }

    private static void codeAfterJoining() {
        Check.sentence(0, CODE);
        Works x = cards(1, 1);
        x.join(1, 0);
        Check.due("the CODE of the one stays", x.ofCard(1, 4), 62899);
        Check.due("the CODE of the other, too", x.ofCard(0, 4), 27182);
        Check.due("the other's is wrong at the one", x.attempt(1, 27182), false);
        Check.due("its own is right", x.attempt(1, 62899), true);
    }

    private static final String MISS = "A try of a wrong CODE at a CARD is a MISS; with the third one it is FROZEN, and has no"
        + " MISS any more; a try of the right one takes all MISSES away.";

    private static void thirdMiss() {
        Check.sentence(0, MISS);
        Works x = cards(1);
        for (int miss = 1; miss <= 2; miss++) {
            Check.due("wrong", x.attempt(0, 27183), false);
            Check.due("MISSES", x.ofCard(0, 3), miss);
            Check.due("OPEN", x.ofCard(0, 0), 0);
        }
        Check.due("the third", x.attempt(0, 27183), false);
        Check.due("FROZEN", x.ofCard(0, 0), 1);
    }

    private static void rightOneTakesMissesAway() {
        Check.sentence(0, MISS);
        for (int misses = 0; misses <= 2; misses++) {
            Works x = cards(1);
            for (int miss = 0; miss < misses; miss++) {
                x.attempt(0, 0);
            }
            Check.due("right", x.attempt(0, 27182), true);
            Check.due("no MISS behind " + misses, x.ofCard(0, 3), 0);
            x.attempt(0, 0);
            x.attempt(0, 0);
            Check.due("two MISSES then", x.ofCard(0, 3), 2);
            Check.due("OPEN still", x.ofCard(0, 0), 0);
            x.attempt(0, 0);
            Check.due("FROZEN by three in a row", x.ofCard(0, 0), 1);
        }
    }

    private static void noMissAnyMore() {
        Check.sentence(0, MISS);
        Works x = cards(1);
        Steps.freeze(x, 0);
        Check.due("no MISS as it is FROZEN", x.ofCard(0, 3), 0);
        x.free(0);
        Check.due("no MISS as it is freed", x.ofCard(0, 3), 0);
        x.attempt(0, 0);
        x.attempt(0, 0);
        Check.due("two MISSES then", x.ofCard(0, 3), 2);
        Check.due("OPEN still", x.ofCard(0, 0), 0);
        x.attempt(0, 0);
        Check.due("FROZEN by three more", x.ofCard(0, 0), 1);
    }

    private static void missesAreOfACard() {
        Check.sentence(0, MISS);
        Works x = cards(1, 1);
        x.attempt(0, 0);
        x.attempt(0, 0);
        x.attempt(1, 0);
        Check.due("OPEN", x.ofCard(0, 0), 0);
        Check.due("MISSES of the other", x.ofCard(1, 3), 1);
        x.attempt(1, 62899);
        Check.due("a right one at the other takes none of its away", x.ofCard(0, 3), 2);
        Check.due("the CODE of the other is wrong", x.attempt(0, 62899), false);
        Check.due("FROZEN by it", x.ofCard(0, 0), 1);
        Check.due("the other is OPEN", x.ofCard(1, 0), 0);
    }

    private static void missesAndMonths() {
        Check.sentence(0, "As a MONTH comes: all MISSES of all CARDS are gone; then CARD by CARD, by numbers:");
        Works x = cards(1, 1, 1, 1, 1, 1, 1, 1, 1, 1, 1, 1);
        for (int card = 0; card < 12; card++) {
            x.attempt(card, 0);
            x.attempt(card, 0);
        }
        x.attempt(5, 0);
        x.pass();
        for (int card = 0; card < 12; card++) {
            Check.due("MISSES of card " + card, x.ofCard(card, 3), 0);
            Check.due("FROZEN stays FROZEN, OPEN stays OPEN", x.ofCard(card, 0), card == 5 ? 1 : 0);
        }
        x.attempt(0, 0);
        x.attempt(0, 0);
        Check.due("two more are not the third", x.ofCard(0, 0), 0);
    }

    // ---- promise 15: join

    private static void join() {
        Check.sentence(15, "Joins another CARD to one.");
        Works x = cards(3, 4);
        x.join(1, 0);
        Check.due("the one is OPEN", x.ofCard(1, 0), 0);
        Check.due("the other is CLOSED", x.ofCard(0, 0), 2);
        Check.due("LOTS are on the one", x.ofLot(0, 0), 1);
        Check.due("none is of the other", x.orderAt(0, 0), -1);
    }

    private static void joinOfEmptyCards() {
        Check.sentence(15, "Joins another CARD to one.");
        Works x = cards(3, 4);
        x.pay(0, 3);
        x.pay(1, 4);
        Check.due("of two without coins", x.join(0, 1), 0);
        Works all = cards(1, 1, 1, 1, 1, 1, 1, 1, 1, 1, 1, 1);
        for (int other = 0; other < 11; other++) {
            Check.due("of all CARDS to the last one", all.join(11, other), 2 + other);
        }
        Check.due("OPEN", all.ofCard(11, 0), 0);
        Check.notNow("no other is OPEN", all, () -> all.join(11, 0));
    }

    private static void joinAnswersTheBalance() {
        Check.sentence(15, "Returns the BALANCE of the one then.");
        Works x = cards(3, 4, 500);
        x.pay(0, 3);
        Check.due("one without coins", x.join(0, 1), 4);
        Check.due("both with coins", x.join(2, 0), 504);
        Works y = cards(3, 4);
        y.pay(1, 4);
        Check.due("another one without coins", y.join(0, 1), 3);
    }

    private static void joinWithoutCard() {
        Check.sentence(15, "Throws `IndexOutOfBoundsException` if there is no such CARD, of both");
        Edges.places("card", () -> cards(1, 1, 1), (x, card) -> x.join(card, 1), 3);
        Edges.places("other", () -> cards(1, 1, 1), (x, other) -> x.join(1, other), 3);
        Works x = cards(1);
        Check.noSuch("the same, where there is none", x, () -> x.join(1, 1));
        Check.noSuch("the same, below 0", x, () -> x.join(-1, -1));
        Works none = new Works();
        Check.noSuch("of none", none, () -> none.join(0, 1));
    }

    private static void joinOfTheSame() {
        Check.sentence(15, "Throws `IllegalArgumentException` if both are the same");
        Works x = cards(1, 1, 1);
        for (int card = 0; card < 3; card++) {
            int same = card;
            Check.outOfRange("the same", x, () -> x.join(same, same));
        }
        Steps.freeze(x, 0);
        x.join(1, 2);
        Check.outOfRange("the same FROZEN one", x, () -> x.join(0, 0));
        Check.outOfRange("the same CLOSED one", x, () -> x.join(2, 2));
        x.die(0, 0);
        Check.outOfRange("the same of a DEAD chain", x, () -> x.join(1, 1));
    }

    private static final String JOIN_NOT_NOW = "Throws `IllegalStateException` if one of both is not OPEN, they are of unlike"
        + " CHAINS, or the CHAIN is DEAD";

    private static void joinOfOneNotOpen() {
        Check.sentence(15, JOIN_NOT_NOW);
        Works x = cards(1, 1, 1, 1);
        Steps.freeze(x, 1);
        Check.notNow("to a FROZEN one", x, () -> x.join(1, 0));
        Check.notNow("of a FROZEN one", x, () -> x.join(0, 1));
        x.join(0, 2);
        Check.notNow("to a CLOSED one", x, () -> x.join(2, 0));
        Check.notNow("of a CLOSED one", x, () -> x.join(3, 2));
        Check.notNow("of a CLOSED one to a FROZEN one", x, () -> x.join(1, 2));
        x.free(1);
        Check.due("of one that was freed", x.join(0, 1), 3);
    }

    private static void joinOfUnlikeChains() {
        Check.sentence(15, JOIN_NOT_NOW);
        Works x = new Works();
        for (int chain = 0; chain < 4; chain++) {
            x.sell(chain, 0, 1);
        }
        for (int one = 0; one < 4; one++) {
            for (int other = 0; other < 4; other++) {
                int to = one;
                int of = other;
                if (one != other) {
                    Check.notNow("of chain " + of + " to " + to, x, () -> x.join(to, of));
                }
            }
        }
        x.sell(3, 2, 1);
        Check.due("of one chain, and unlike LANDS", x.join(3, 4), 2);
    }

    private static void joinOfTheDead() {
        Check.sentence(15, JOIN_NOT_NOW);
        Works x = cards(1, 1);
        x.sell(1, 0, 1);
        x.sell(1, 0, 1);
        x.die(0, 9999);
        Check.notNow("DEAD", x, () -> x.join(0, 1));
        Check.notNow("DEAD and unlike", x, () -> x.join(0, 2));
        Check.due("of the living", x.join(2, 3), 2);
    }

    // ---- promise 16: attempt

    private static void attempt() {
        Check.sentence(16, "Tries a CODE at a CARD.");
        Works x = cards(1, 1);
        x.attempt(1, 27182);
        Check.due("a MISS at this one", x.ofCard(1, 3), 1);
        Check.due("none at another", x.ofCard(0, 3), 0);
        x.die(0, 0);
        Check.due("at a CARD of a DEAD chain", x.attempt(1, 62899), true);
        Check.due("no MISS then", x.ofCard(1, 3), 0);
    }

    private static void attemptRange() {
        Check.sentence(16, "`code`: 0 to 99999");
        Edges.range("code", () -> cards(1), (x, code) -> x.attempt(0, code), 0, 99999);
        Works x = cards(1);
        Check.due("0 is wrong", x.attempt(0, 0), false);
        Check.due("99999 is wrong", x.attempt(0, 99999), false);
        Check.due("two MISSES", x.ofCard(0, 3), 2);
    }

    private static void attemptAnswers() {
        Check.sentence(16, "Returns whether it is right.");
        for (int code = 27180; code <= 27189; code++) {
            Check.due("attempt of " + code, cards(1).attempt(0, code), code == 27182);
        }
        Check.due("one with another NUMBER", cards(1).attempt(0, 27192), false);
        Check.due("the NUMBER", cards(1).attempt(0, 2718), false);
    }

    private static void attemptWithoutCard() {
        Check.sentence(16, "Throws `IndexOutOfBoundsException` if there is no such CARD");
        Edges.places("card", () -> cards(1, 1, 1), (x, card) -> x.attempt(card, 0), 3);
        Edges.noSuch("card of none", Works::new, (x, card) -> x.attempt(card, 27182), 0, 12);
    }

    private static void attemptOutOfRange() {
        Check.sentence(16, "Throws `IllegalArgumentException` if code is out of range");
        Works x = cards(1, 1);
        x.attempt(0, 0);
        x.attempt(0, 0);
        Check.outOfRange("-1 is no MISS", x, () -> x.attempt(0, -1));
        Check.outOfRange("100000 is no MISS", x, () -> x.attempt(0, 100000));
        Check.outOfRange("the CODE and 100000", x, () -> x.attempt(0, 127182));
        Steps.freeze(x, 1);
        Check.outOfRange("-1 at a FROZEN one", x, () -> x.attempt(1, -1));
    }

    private static void attemptOfOneNotOpen() {
        Check.sentence(16, "Throws `IllegalStateException` if the CARD is not OPEN");
        Works x = cards(1, 1, 1);
        Steps.freeze(x, 0);
        Check.notNow("the right one at a FROZEN one", x, () -> x.attempt(0, 27182));
        Check.notNow("a wrong one at a FROZEN one", x, () -> x.attempt(0, 0));
        x.join(1, 2);
        int code = x.ofCard(2, 4);
        Check.notNow("the right one at a CLOSED one", x, () -> x.attempt(2, code));
        Check.notNow("a wrong one at a CLOSED one", x, () -> x.attempt(2, 0));
        x.free(0);
        Check.due("the right one at one that was freed", x.attempt(0, 27182), true);
    }

    // ---- promise 17: free

    private static void free() {
        Check.sentence(17, "Makes a FROZEN CARD OPEN; another one stays as it is.");
        Works x = cards(1, 1, 1);
        Steps.freeze(x, 0);
        Steps.freeze(x, 1);
        x.free(0);
        Check.due("OPEN", x.ofCard(0, 0), 0);
        Check.due("another FROZEN one", x.ofCard(1, 0), 1);
        x.join(0, 2);
        x.free(2);
        Check.due("a CLOSED one", x.ofCard(2, 0), 2);
        x.attempt(0, 0);
        x.attempt(0, 0);
        x.free(0);
        Check.due("an OPEN one", x.ofCard(0, 0), 0);
        Check.due("its MISSES", x.ofCard(0, 3), 2);
        x.die(0, 0);
        x.free(1);
        Check.due("a FROZEN one of a DEAD chain", x.ofCard(1, 0), 0);
    }

    private static void freeAnswers() {
        Check.sentence(17, "Returns whether it was FROZEN.");
        Works x = cards(1, 1);
        Check.due("an OPEN one", x.free(0), false);
        x.attempt(0, 0);
        x.attempt(0, 0);
        Check.due("an OPEN one with two MISSES", x.free(0), false);
        x.attempt(0, 0);
        Check.due("a FROZEN one", x.free(0), true);
        Check.due("again", x.free(0), false);
        x.join(0, 1);
        Check.due("a CLOSED one", x.free(1), false);
        Check.changesNothing("freeing a CLOSED one", x, () -> x.free(1));
        Check.changesNothing("freeing an OPEN one", x, () -> x.free(0));
    }

    private static void freeWithoutCard() {
        Check.sentence(17, "Throws `IndexOutOfBoundsException` if there is no such CARD");
        Edges.places("card", () -> cards(1, 1, 1), (x, card) -> x.free(card), 3);
        Edges.noSuch("card of none", Works::new, (x, card) -> x.free(card), 0, 12);
    }
}
