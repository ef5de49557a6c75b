import java.util.Arrays;

/**
 * Gift cards of chains that are sold in lands, and all that becomes of the coins on them.
 * The words in capitals of the document (LOT, ORDER, USE ..) are the names of fields and methods here.
 * The methods of the face look at every argument; what stands behind them may rely on that.
 */
public final class Voucherworks {
    public static final int NONE = -1;
    public static final int BOUGHT = 0, RETURNED = 1, CONVERTED = 2, GRANTED = 3;
    public static final int OPEN = 0, FROZEN = 1, CLOSED = 2;

    private static final int LAST_MONTH = 240;
    private static final int LANDS = 3;
    private static final int CHAINS = 4;
    private static final int ORIGINS = 4;
    private static final int MOST_CARDS = 12;
    private static final int MOST_LOTS = 60;
    private static final int MOST_CAMPAIGNS = 6;
    private static final int MOST_PAYMENTS = 40;

    private static final int MOST_COINS = 500;
    private static final int MOST_PRICE = 1000;
    private static final int MOST_MARKS = 500;
    private static final int MOST_CODE = 99999;
    private static final int MOST_ESTATE = 9999;

    private static final int MONTHS_RETURNED = 3;
    private static final int MONTHS_CONVERTED = 12;
    private static final int MONTHS_GRANTED = 6;
    private static final int MONTHS_UNTIL_FEE = 12;
    private static final int MONTHS_PENDING = 2;

    private static final int NET_FOR_A_MARK = 10;
    private static final int MARKS_FOR_A_COIN = 5;
    private static final int MISSES_TO_FREEZE = 3;

    private final Lands lands = new Lands();
    private final Chains chains = new Chains();
    private final Cards cards = new Cards();
    private final Lots lots = new Lots();
    private final Campaigns campaigns = new Campaigns();
    private final Payments payments = new Payments();
    private int now = 0;

    public Voucherworks() {
    }

    // ---- LANDS, CHAINS, CARDS

    public int law(int land, int life, int fee, int share)
            throws IndexOutOfBoundsException, IllegalArgumentException {
        needPlace(land, LANDS);
        if (life != 0) {
            needRange(life, 6, 60);
        }
        needRange(fee, 0, 9);
        needRange(share, 0, 100);
        int before = lands.life[land];
        lands.life[land] = life;
        lands.fee[land] = fee;
        lands.share[land] = share;
        return before;
    }

    public int rate(int chain, int rate)
            throws IndexOutOfBoundsException, IllegalArgumentException {
        needPlace(chain, CHAINS);
        needRange(rate, 0, 100);
        int before = chains.rate[chain];
        chains.rate[chain] = rate;
        return before;
    }

    public int sell(int chain, int land, int coins)
            throws IndexOutOfBoundsException, IllegalArgumentException, IllegalStateException {
        needPlace(chain, CHAINS);
        needPlace(land, LANDS);
        needRange(coins, 1, MOST_COINS);
        refuseIf(chains.isDead[chain] || cards.count >= MOST_CARDS || lots.isFull());
        int card = cards.add(chain, land, lands);
        cards.use[card] = now;
        addBought(card, coins);
        return card;
    }

    public int load(int card, int coins, boolean isGranted)
            throws IndexOutOfBoundsException, IllegalArgumentException, IllegalStateException {
        needPlace(card, cards.count);
        needRange(coins, 1, MOST_COINS);
        refuseIf(cards.state[card] == CLOSED || isOfDead(card) || lots.isFull());
        if (isGranted) {
            addGift(card, GRANTED, coins, MONTHS_GRANTED);
        } else {
            addBought(card, coins);
        }
        cards.use[card] = now;
        return lots.balance(card);
    }

    // ---- CAMPAIGNS

    public int campaign(boolean isPercent, int value, int least)
            throws IllegalArgumentException, IllegalStateException {
        needRange(value, 1, isPercent ? 90 : 200);
        needRange(least, 0, 500);
        refuseIf(campaigns.count >= MOST_CAMPAIGNS);
        return campaigns.add(isPercent, value, least);
    }

    public boolean bar(int campaign, int other, boolean is)
            throws IndexOutOfBoundsException, IllegalArgumentException {
        needPlace(campaign, campaigns.count);
        needPlace(other, campaigns.count);
        needUnlike(campaign, other);
        boolean before = campaigns.isBarring(campaign, other);
        campaigns.setBarring(campaign, other, is);
        return before;
    }

    public int best(int price) throws IllegalArgumentException {
        needRange(price, 1, MOST_PRICE);
        return campaigns.leastByOrders(price);
    }

    public int bestAnew(int price) throws IllegalArgumentException {
        needRange(price, 1, MOST_PRICE);
        campaigns.lookAtAllSets(price);
        return campaigns.lowest;
    }

    public int fewest(int price) throws IllegalArgumentException {
        needRange(price, 1, MOST_PRICE);
        campaigns.lookAtAllSets(price);
        return campaigns.sizeForLowest;
    }

    // ---- PAYMENTS, MARKS

    public int pay(int card, int price)
            throws IndexOutOfBoundsException, IllegalArgumentException, IllegalStateException {
        needPlace(card, cards.count);
        needRange(price, 1, MOST_PRICE);
        int cost = campaigns.leastByOrders(price);
        refuseIf(reasonAgainst(card, cost) != 0);
        lots.takeInOrder(card, cost);
        cards.use[card] = now;
        return payments.add(card, cost, now, lots.drawn);
    }

    public int whyNot(int card, int price)
            throws IndexOutOfBoundsException, IllegalArgumentException {
        needPlace(card, cards.count);
        needRange(price, 1, MOST_PRICE);
        return reasonAgainst(card, campaigns.leastByOrders(price));
    }

    public int giveBack(int payment, int coins)
            throws IndexOutOfBoundsException, IllegalArgumentException, IllegalStateException {
        needPlace(payment, payments.count);
        needRange(coins, 1, payments.net[payment]);
        int card = payments.card[payment];
        refuseIf(isOfDead(card));
        lots.planBack(payments.open[payment], coins);
        int late = lots.plannedForExpired(now);
        refuseIf(late > 0 && lots.isFull());
        payments.takeFromOpen(payment, lots.drawn);
        lots.putBackUnexpired(now);
        if (late > 0) {
            lots.add(card, RETURNED, late, now, now + MONTHS_RETURNED);
        }
        return payments.net[payment];
    }

    public int convert(int card, int marks)
            throws IndexOutOfBoundsException, IllegalArgumentException, IllegalStateException {
        needPlace(card, cards.count);
        needRange(marks, MARKS_FOR_A_COIN, MOST_MARKS);
        needMultiple(marks, MARKS_FOR_A_COIN);
        refuseIf(cards.state[card] != OPEN || isOfDead(card));
        refuseIf(marksOf(card) < marks || lots.isFull());
        int coins = marks / MARKS_FOR_A_COIN;
        cards.converted[card] += marks;
        addGift(card, CONVERTED, coins, MONTHS_CONVERTED);
        cards.use[card] = now;
        return coins;
    }

    // ---- joining, codes

    public int join(int card, int other)
            throws IndexOutOfBoundsException, IllegalArgumentException, IllegalStateException {
        needPlace(card, cards.count);
        needPlace(other, cards.count);
        needUnlike(card, other);
        refuseIf(cards.state[card] != OPEN || cards.state[other] != OPEN);
        refuseIf(cards.chain[card] != cards.chain[other] || isOfDead(card));
        lots.moveAll(other, card);
        payments.moveAll(other, card);
        cards.converted[card] += cards.converted[other];
        cards.converted[other] = 0;
        cards.state[other] = CLOSED;
        cards.misses[other] = 0;
        cards.use[card] = now;
        return lots.balance(card);
    }

    public boolean attempt(int card, int code)
            throws IndexOutOfBoundsException, IllegalArgumentException, IllegalStateException {
        needPlace(card, cards.count);
        needRange(code, 0, MOST_CODE);
        refuseIf(cards.state[card] != OPEN);
        if (code == cards.code(card)) {
            cards.misses[card] = 0;
            return true;
        }
        cards.addMiss(card);
        return false;
    }

    public boolean free(int card) throws IndexOutOfBoundsException {
        needPlace(card, cards.count);
        if (cards.state[card] != FROZEN) {
            return false;
        }
        cards.state[card] = OPEN;
        return true;
    }

    // ---- MONTHS, deaths

    public int pass() throws IllegalStateException {
        refuseIf(now >= LAST_MONTH);
        now++;
        Arrays.fill(cards.misses, 0);
        for (int card = 0; card < cards.count; card++) {
            endLots(card);
            takeFee(card);
        }
        return now;
    }

    public int die(int chain, int estate)
            throws IndexOutOfBoundsException, IllegalArgumentException, IllegalStateException {
        needPlace(chain, CHAINS);
        needRange(estate, 0, MOST_ESTATE);
        refuseIf(chains.isDead[chain]);
        chains.isDead[chain] = true;
        int rest = estate;
        for (int origin = BOUGHT; origin < ORIGINS; origin++) {
            rest -= payOut(chain, origin, rest);
        }
        return rest;
    }

    // ---- what there is

    public int month() {
        return now;
    }

    public int ofCard(int card, int what)
            throws IndexOutOfBoundsException, IllegalArgumentException {
        needPlace(card, cards.count);
        needRange(what, 0, 7);
        switch (what) {
            case 0: return cards.state[card];
            case 1: return lots.balance(card);
            case 2: return cards.use[card];
            case 3: return cards.misses[card];
            case 4: return cards.code(card);
            case 5: return marksOf(card);
            case 6: return payments.marksOfCard(card, now, true);
            default: return cards.life[card];
        }
    }

    public int ofLot(int lot, int what)
            throws IndexOutOfBoundsException, IllegalArgumentException {
        needPlace(lot, lots.count);
        needRange(what, 0, 4);
        switch (what) {
            case 0: return lots.card[lot];
            case 1: return lots.origin[lot];
            case 2: return lots.left[lot];
            case 3: return lots.end[lot];
            default: return lots.begin[lot];
        }
    }

    public int orderAt(int card, int place) throws IndexOutOfBoundsException {
        needPlace(card, cards.count);
        if (place < 0) {
            throw new IndexOutOfBoundsException("no such place");
        }
        int held = lots.putInOrder(card);
        return place < held ? lots.row[place] : NONE;
    }

    public int ofPayment(int payment, int what)
            throws IndexOutOfBoundsException, IllegalArgumentException {
        needPlace(payment, payments.count);
        needRange(what, 0, 4);
        switch (what) {
            case 0: return payments.card[payment];
            case 1: return payments.took[payment];
            case 2: return payments.net[payment];
            case 3: return payments.month[payment];
            default: return payments.marks(payment);
        }
    }

    public int taken(int payment, int lot) throws IndexOutOfBoundsException {
        needPlace(payment, payments.count);
        needPlace(lot, lots.count);
        return payments.open[payment][lot];
    }

    public int ofChain(int chain, int what)
            throws IndexOutOfBoundsException, IllegalArgumentException {
        needPlace(chain, CHAINS);
        needRange(what, 0, 8);
        switch (what) {
            case 0: return chains.received[chain];
            case 1: return chains.given[chain];
            case 2: return leftOf(chain);
            case 3: return netOf(chain);
            case 4: return chains.income[chain];
            case 5: return chains.gone[chain];
            case 6: return chains.paidOut[chain];
            case 7: return chains.lost[chain];
            default: return chains.isDead[chain] ? 1 : 0;
        }
    }

    public int owed(int land, int chain) throws IndexOutOfBoundsException {
        needPlace(land, LANDS);
        needPlace(chain, CHAINS);
        return chains.due[land][chain];
    }

    public int leftAnew(int chain) throws IndexOutOfBoundsException {
        needPlace(chain, CHAINS);
        return chains.balanceOfAccounts(chain) - netOf(chain);
    }

    public int booked(int chain) throws IndexOutOfBoundsException {
        needPlace(chain, CHAINS);
        int sum = 0;
        for (int lot = 0; lot < lots.count; lot++) {
            if (isOfChain(lot, chain)) {
                sum += lots.breakage(lot, now, chains.rate[chain]);
            }
        }
        return sum;
    }

    // ---- what is refused

    private static void needPlace(int place, int count) {
        if (place < 0 || place >= count) {
            throw new IndexOutOfBoundsException("there is none of that number");
        }
    }

    private static void needRange(int value, int low, int high) {
        if (value < low || value > high) {
            throw new IllegalArgumentException("out of range");
        }
    }

    private static void needMultiple(int value, int of) {
        if (of != 0 && value % of != 0) {
            throw new IllegalArgumentException("not a multiple");
        }
    }

    private static void needUnlike(int one, int other) {
        if (one == other) {
            throw new IllegalArgumentException("both are the same");
        }
    }

    private static void refuseIf(boolean holds) {
        if (holds) {
            throw new IllegalStateException("not as things stand");
        }
    }

    private int reasonAgainst(int card, int cost) {
        if (cards.state[card] == CLOSED) {
            return 1;
        }
        if (cards.state[card] == FROZEN) {
            return 2;
        }
        if (isOfDead(card)) {
            return 3;
        }
        if (cost > lots.balance(card)) {
            return 4;
        }
        return payments.count >= MOST_PAYMENTS ? 5 : 0;
    }

    // ---- what goes over several of the tables

    private boolean isOfDead(int card) {
        return chains.isDead[cards.chain[card]];
    }

    private boolean isOfChain(int lot, int chain) {
        return cards.chain[lots.card[lot]] == chain;
    }

    private void addBought(int card, int coins) {
        int life = cards.life[card];
        lots.add(card, BOUGHT, coins, now, life == 0 ? NONE : now + life);
        chains.received[cards.chain[card]] += coins;
    }

    private void addGift(int card, int origin, int coins, int months) {
        lots.add(card, origin, coins, now, now + months);
        chains.given[cards.chain[card]] += coins;
    }

    private int marksOf(int card) {
        return payments.marksOfCard(card, now, false) - cards.converted[card];
    }

    private void endLots(int card) {
        for (int lot = 0; lot < lots.count; lot++) {
            if (lots.card[lot] == card && lots.end[lot] == now) {
                endLot(card, lot);
            }
        }
    }

    private void endLot(int card, int lot) {
        int chain = cards.chain[card];
        int coins = lots.left[lot];
        lots.left[lot] = 0;
        if (lots.origin[lot] == BOUGHT || lots.origin[lot] == RETURNED) {
            int forLand = coins * cards.share[card] / 100;
            chains.due[cards.land[card]][chain] += forLand;
            chains.income[chain] += coins - forLand;
        } else {
            chains.gone[chain] += coins;
        }
    }

    private void takeFee(int card) {
        if (now - cards.use[card] >= MONTHS_UNTIL_FEE) {
            int coins = Math.min(cards.fee[card], lots.balance(card));
            lots.takeInOrder(card, coins);
            chains.income[cards.chain[card]] += coins;
        }
    }

    private int payOut(int chain, int origin, int estate) {
        int claim = claimOf(chain, origin);
        int paid = 0;
        for (int lot = 0; lot < lots.count; lot++) {
            if (isOfChain(lot, chain) && lots.origin[lot] == origin) {
                int coins = lots.left[lot];
                int part = estate >= claim || claim <= 0 ? coins : estate * coins / claim;
                lots.left[lot] = 0;
                chains.lost[chain] += coins - part;
                paid += part;
            }
        }
        chains.paidOut[chain] += paid;
        return paid;
    }

    private int claimOf(int chain, int origin) {
        int sum = 0;
        for (int lot = 0; lot < lots.count; lot++) {
            if (isOfChain(lot, chain) && lots.origin[lot] == origin) {
                sum += lots.left[lot];
            }
        }
        return sum;
    }

    private int leftOf(int chain) {
        int sum = 0;
        for (int origin = BOUGHT; origin < ORIGINS; origin++) {
            sum += claimOf(chain, origin);
        }
        return sum;
    }

    private int netOf(int chain) {
        int sum = 0;
        for (int payment = 0; payment < payments.count; payment++) {
            if (cards.chain[payments.card[payment]] == chain) {
                sum += payments.net[payment];
            }
        }
        return sum;
    }

    private static final class Lands {
        final int[] life = {24, 24, 24};
        final int[] fee = {2, 2, 2};
        final int[] share = {50, 50, 50};
    }

    private static final class Chains {
        final boolean[] isDead = new boolean[CHAINS];
        final int[] rate = new int[CHAINS];
        final int[] received = new int[CHAINS];
        final int[] given = new int[CHAINS];
        final int[] income = new int[CHAINS];
        final int[] gone = new int[CHAINS];
        final int[] paidOut = new int[CHAINS];
        final int[] lost = new int[CHAINS];
        final int[][] due = new int[LANDS][CHAINS];

        int balanceOfAccounts(int chain) {
            int sum = received[chain] + given[chain] - income[chain] - gone[chain] - paidOut[chain] - lost[chain];
            for (int land = 0; land < LANDS; land++) {
                sum -= due[land][chain];
            }
            return sum;
        }
    }

    private static final class Cards {
        final int[] chain = new int[MOST_CARDS];
        final int[] land = new int[MOST_CARDS];
        final int[] life = new int[MOST_CARDS];
        final int[] fee = new int[MOST_CARDS];
        final int[] share = new int[MOST_CARDS];
        final int[] state = new int[MOST_CARDS];
        final int[] use = new int[MOST_CARDS];
        final int[] misses = new int[MOST_CARDS];
        final int[] converted = new int[MOST_CARDS];
        int count = 0;

        // The law is copied, as a later law must not reach a card that is sold.
        int add(int ofChain, int ofLand, Lands laws) {
            int card = count;
            count++;
            chain[card] = ofChain;
            land[card] = ofLand;
            life[card] = laws.life[ofLand];
            fee[card] = laws.fee[ofLand];
            share[card] = laws.share[ofLand];
            state[card] = OPEN;
            return card;
        }

        int code(int card) {
            int number = (3571 * card + 977 * chain[card] + 131 * land[card] + 2718) % 10000;
            int check = number / 1000 + 3 * (number / 100 % 10) + 7 * (number / 10 % 10) + 9 * (number % 10);
            return 10 * number + check % 10;
        }

        void addMiss(int card) {
            misses[card]++;
            if (misses[card] >= MISSES_TO_FREEZE) {
                state[card] = FROZEN;
                misses[card] = 0;
            }
        }
    }

    private static final class Lots {
        final int[] card = new int[MOST_LOTS];
        final int[] origin = new int[MOST_LOTS];
        final int[] left = new int[MOST_LOTS];
        final int[] begin = new int[MOST_LOTS];
        final int[] end = new int[MOST_LOTS];
        // Rows that are used again by every call: lots in their order, and coins that move by lot.
        final int[] row = new int[MOST_LOTS];
        final int[] drawn = new int[MOST_LOTS];
        int count = 0;

        boolean isFull() {
            return count >= MOST_LOTS;
        }

        void add(int onCard, int from, int coins, int month, int until) {
            int lot = count;
            count++;
            card[lot] = onCard;
            origin[lot] = from;
            left[lot] = coins;
            begin[lot] = month;
            end[lot] = until;
        }

        int balance(int ofCard) {
            int sum = 0;
            for (int lot = 0; lot < count; lot++) {
                if (card[lot] == ofCard) {
                    sum += left[lot];
                }
            }
            return sum;
        }

        void moveAll(int from, int to) {
            for (int lot = 0; lot < count; lot++) {
                if (card[lot] == from) {
                    card[lot] = to;
                }
            }
        }

        boolean hasExpired(int lot, int month) {
            return end[lot] != NONE && month >= end[lot];
        }

        private boolean isAhead(int lot, int other) {
            if (end[lot] != end[other]) {
                return end[other] == NONE || end[lot] != NONE && end[lot] < end[other];
            }
            if (origin[lot] != origin[other]) {
                return origin[lot] > origin[other];
            }
            return lot < other;
        }

        private void putInRow(int lot, int held) {
            int place = held;
            while (place > 0 && isAhead(lot, row[place - 1])) {
                row[place] = row[place - 1];
                place--;
            }
            row[place] = lot;
        }

        /** Fills the row with the lots on a card that have coins left; returns how many. */
        int putInOrder(int ofCard) {
            int held = 0;
            for (int lot = 0; lot < count; lot++) {
                if (card[lot] == ofCard && left[lot] > 0) {
                    putInRow(lot, held);
                    held++;
                }
            }
            return held;
        }

        /** Takes coins that are there; what went from which lot stands in drawn. */
        void takeInOrder(int ofCard, int coins) {
            Arrays.fill(drawn, 0);
            int held = putInOrder(ofCard);
            int missing = coins;
            for (int place = 0; place < held; place++) {
                int lot = row[place];
                int part = Math.min(missing, left[lot]);
                left[lot] -= part;
                drawn[lot] = part;
                missing -= part;
            }
        }

        /** Writes to drawn what would go back to which lot, and changes nothing else. */
        void planBack(int[] open, int coins) {
            Arrays.fill(drawn, 0);
            int held = 0;
            for (int lot = 0; lot < count; lot++) {
                if (open[lot] > 0) {
                    putInRow(lot, held);
                    held++;
                }
            }
            // By what it is ordered never changes, so the last of the row is the one taken from last.
            int missing = coins;
            for (int place = held - 1; place >= 0; place--) {
                int lot = row[place];
                drawn[lot] = Math.min(missing, open[lot]);
                missing -= drawn[lot];
            }
        }

        int plannedForExpired(int month) {
            int sum = 0;
            for (int lot = 0; lot < count; lot++) {
                if (hasExpired(lot, month)) {
                    sum += drawn[lot];
                }
            }
            return sum;
        }

        void putBackUnexpired(int month) {
            for (int lot = 0; lot < count; lot++) {
                if (!hasExpired(lot, month)) {
                    left[lot] += drawn[lot];
                }
            }
        }

        int breakage(int lot, int month, int rate) {
            if (origin[lot] != BOUGHT || end[lot] == NONE) {
                return 0;
            }
            int whole = 100 * (end[lot] - begin[lot]);
            return whole <= 0 ? 0 : left[lot] * (month - begin[lot]) * rate / whole;
        }
    }

    private static final class Campaigns {
        private static final int SETS = 1 << MOST_CAMPAIGNS;
        private static final int WORD_BITS = 32;
        private static final int WORDS = MOST_PRICE / WORD_BITS + 1;

        final boolean[] isPercent = new boolean[MOST_CAMPAIGNS];
        final int[] value = new int[MOST_CAMPAIGNS];
        final int[] least = new int[MOST_CAMPAIGNS];
        // Sets of campaigns are bits of a number: bit 0 for campaign 0.
        final int[] barred = new int[MOST_CAMPAIGNS];
        // Of each set the prices that can be got by it, as bits: far fewer elements than a boolean a price.
        final int[][] got = new int[SETS][WORDS];
        int lowest = 0;
        int sizeForLowest = 0;
        int count = 0;

        int add(boolean isInHundredths, int by, int from) {
            int campaign = count;
            count++;
            isPercent[campaign] = isInHundredths;
            value[campaign] = by;
            least[campaign] = from;
            return campaign;
        }

        boolean isBarring(int campaign, int other) {
            return (barred[campaign] >> other & 1) == 1;
        }

        void setBarring(int campaign, int other, boolean is) {
            if (is) {
                barred[campaign] |= 1 << other;
                barred[other] |= 1 << campaign;
            } else {
                barred[campaign] &= ~(1 << other);
                barred[other] &= ~(1 << campaign);
            }
        }

        private int reduced(int campaign, int price) {
            if (isPercent[campaign]) {
                return price - price * value[campaign] / 100;
            }
            return Math.max(0, price - value[campaign]);
        }

        int leastByOrders(int price) {
            return leastFrom(this, price, 0, 0);
        }

        /** Closed are the campaigns that are applied already, and those that they bar. */
        private static int leastFrom(Campaigns all, int price, int closed, int depth) {
            int lowestYet = price;
            if (depth >= MOST_CAMPAIGNS) {
                return lowestYet;
            }
            for (int campaign = 0; campaign < all.count; campaign++) {
                if ((closed >> campaign & 1) == 0 && price >= all.least[campaign]) {
                    int next = all.reduced(campaign, price);
                    // One that takes nothing off only closes others.
                    if (next < price) {
                        int then = closed | 1 << campaign | all.barred[campaign];
                        lowestYet = Math.min(lowestYet, leastFrom(all, next, then, depth + 1));
                    }
                }
            }
            return lowestYet;
        }

        /** Leaves the lowest price in lowest, and the size of the smallest set that gets it in sizeForLowest. */
        void lookAtAllSets(int price) {
            lowest = price;
            sizeForLowest = 0;
            for (int set = 0; set < 1 << count; set++) {
                Arrays.fill(got[set], 0);
            }
            mark(0, price);
            for (int set = 1; set < 1 << count; set++) {
                if (isWithoutBars(set)) {
                    markPricesOf(set);
                }
            }
        }

        private boolean isWithoutBars(int set) {
            for (int campaign = 0; campaign < count; campaign++) {
                if ((set >> campaign & 1) == 1 && (barred[campaign] & set) != 0) {
                    return false;
                }
            }
            return true;
        }

        /** One campaign of the set comes last, behind a price that the others get. */
        private void markPricesOf(int set) {
            for (int campaign = 0; campaign < count; campaign++) {
                if ((set >> campaign & 1) == 1) {
                    int others = set & ~(1 << campaign);
                    for (int word = 0; word < WORDS; word++) {
                        if (got[others][word] != 0) {
                            applyToWord(set, campaign, word, got[others][word]);
                        }
                    }
                }
            }
        }

        private void applyToWord(int set, int campaign, int word, int prices) {
            int open = prices;
            for (int more = Integer.bitCount(prices); more > 0; more--) {
                int bit = Integer.bitCount((open & -open) - 1);
                int price = word * WORD_BITS + bit;
                if (price >= least[campaign]) {
                    mark(set, reduced(campaign, price));
                }
                open &= open - 1;
            }
        }

        private void mark(int set, int price) {
            got[set][price / WORD_BITS] |= 1 << price % WORD_BITS;
            int size = Integer.bitCount(set);
            if (price < lowest || price == lowest && size < sizeForLowest) {
                lowest = price;
                sizeForLowest = size;
            }
        }
    }

    private static final class Payments {
        final int[] card = new int[MOST_PAYMENTS];
        final int[] took = new int[MOST_PAYMENTS];
        final int[] net = new int[MOST_PAYMENTS];
        final int[] month = new int[MOST_PAYMENTS];
        // Of each payment and lot: what was taken and not given back yet.
        final int[][] open = new int[MOST_PAYMENTS][MOST_LOTS];
        int count = 0;

        int add(int withCard, int coins, int inMonth, int[] byLot) {
            int payment = count;
            count++;
            card[payment] = withCard;
            took[payment] = coins;
            net[payment] = coins;
            month[payment] = inMonth;
            for (int lot = 0; lot < MOST_LOTS; lot++) {
                open[payment][lot] = byLot[lot];
            }
            return payment;
        }

        void takeFromOpen(int payment, int[] byLot) {
            for (int lot = 0; lot < MOST_LOTS; lot++) {
                open[payment][lot] -= byLot[lot];
                net[payment] -= byLot[lot];
            }
        }

        void moveAll(int from, int to) {
            for (int payment = 0; payment < count; payment++) {
                if (card[payment] == from) {
                    card[payment] = to;
                }
            }
        }

        int marks(int payment) {
            return net[payment] / NET_FOR_A_MARK;
        }

        int marksOfCard(int ofCard, int now, boolean pending) {
            int sum = 0;
            for (int payment = 0; payment < count; payment++) {
                if (card[payment] == ofCard && isPending(payment, now) == pending) {
                    sum += marks(payment);
                }
            }
            return sum;
        }

        private boolean isPending(int payment, int now) {
            return now - month[payment] < MONTHS_PENDING;
        }
    }
}
