import java.util.ArrayList;
import java.util.Collections;
import java.util.LinkedHashMap;
import java.util.List;
import java.util.Map;

/** The document read word by word, without a thought of speed: what the program is held against. */
final class Model implements Face {
    private static final int NONE = -1;
    private static final int BOUGHT = 0, RETURNED = 1, CONVERTED = 2, GRANTED = 3;
    private static final int OPEN = 0, FROZEN = 1, CLOSED = 2;

    private static final class Land {
        int life = 24, fee = 2, share = 50;
    }

    private static final class Chain {
        int rate, received, came, income, voided, paidOut, lost;
        boolean dead;
        final Map<Land, Integer> owed = new LinkedHashMap<>();
    }

    private static final class Card {
        Chain chain;
        Land land;
        int life, fee, share, state, use, misses, converted, code;
    }

    private static final class Lot {
        int number, origin, left, begin;
        Card card;
        Integer end;
    }

    private static final class Payment {
        Card card;
        int took, month;
        final List<Lot> from = new ArrayList<>();
        final Map<Lot, Integer> open = new LinkedHashMap<>();

        int net() {
            return open.values().stream().mapToInt(Integer::intValue).sum();
        }
    }

    private static final class Campaign {
        boolean isPercent;
        int value, least;
        final List<Campaign> bars = new ArrayList<>();
    }

    private final List<Land> lands = List.of(new Land(), new Land(), new Land());
    private final List<Chain> chains = List.of(new Chain(), new Chain(), new Chain(), new Chain());
    private final List<Card> cards = new ArrayList<>();
    private final List<Lot> lots = new ArrayList<>();
    private final List<Campaign> campaigns = new ArrayList<>();
    private final List<Payment> payments = new ArrayList<>();
    private int month = 0;

    private static <T> T one(List<T> all, int number) {
        if (number < 0 || number >= all.size()) {
            throw new IndexOutOfBoundsException();
        }
        return all.get(number);
    }

    private static void argument(boolean fits) {
        if (!fits) {
            throw new IllegalArgumentException();
        }
    }

    private static void state(boolean fits) {
        if (!fits) {
            throw new IllegalStateException();
        }
    }

    // ---- LANDS, CHAINS, CARDS

    public int law(int land, int life, int fee, int share) {
        Land it = one(lands, land);
        argument(life == 0 || life >= 6 && life <= 60);
        argument(fee >= 0 && fee <= 9);
        argument(share >= 0 && share <= 100);
        int before = it.life;
        it.life = life;
        it.fee = fee;
        it.share = share;
        return before;
    }

    public int rate(int chain, int rate) {
        Chain it = one(chains, chain);
        argument(rate >= 0 && rate <= 100);
        int before = it.rate;
        it.rate = rate;
        return before;
    }

    public int sell(int chain, int land, int coins) {
        Chain ofChain = one(chains, chain);
        Land ofLand = one(lands, land);
        argument(coins >= 1 && coins <= 500);
        state(!ofChain.dead && cards.size() < 12 && lots.size() < 60);
        Card card = new Card();
        card.chain = ofChain;
        card.land = ofLand;
        card.life = ofLand.life;
        card.fee = ofLand.fee;
        card.share = ofLand.share;
        card.use = month;
        String digits = String.format("%04d", (3571 * cards.size() + 977 * chain + 131 * land + 2718) % 10000);
        int[] times = {1, 3, 7, 9};
        int sum = 0;
        for (int i = 0; i < 4; i++) {
            sum += times[i] * (digits.charAt(i) - '0');
        }
        card.code = Integer.parseInt(digits + sum % 10);
        cards.add(card);
        comes(card, BOUGHT, coins);
        return cards.size() - 1;
    }

    public int load(int card, int coins, boolean isGranted) {
        Card it = one(cards, card);
        argument(coins >= 1 && coins <= 500);
        state(it.state != CLOSED && !it.chain.dead && lots.size() < 60);
        comes(it, isGranted ? GRANTED : BOUGHT, coins);
        it.use = month;
        return balance(it);
    }

    private void comes(Card card, int origin, int coins) {
        Lot lot = new Lot();
        lot.number = lots.size();
        lot.card = card;
        lot.origin = origin;
        lot.left = coins;
        lot.begin = month;
        if (origin == BOUGHT) {
            lot.end = card.life == 0 ? null : Integer.valueOf(month + card.life);
            card.chain.received += coins;
        } else if (origin == RETURNED) {
            lot.end = month + 3;
        } else {
            lot.end = month + (origin == CONVERTED ? 12 : 6);
            card.chain.came += coins;
        }
        lots.add(lot);
    }

    private int balance(Card card) {
        int sum = 0;
        for (Lot lot : lots) {
            sum += lot.card == card ? lot.left : 0;
        }
        return sum;
    }

    private List<Lot> order(Card card) {
        List<Lot> order = new ArrayList<>();
        for (Lot lot : lots) {
            if (lot.card == card && lot.left > 0) {
                order.add(lot);
            }
        }
        order.sort((a, b) -> {
            if (a.end == null && b.end != null) {
                return 1;
            }
            if (a.end != null && b.end == null) {
                return -1;
            }
            if (a.end != null && !a.end.equals(b.end)) {
                return a.end - b.end;
            }
            return a.origin != b.origin ? b.origin - a.origin : a.number - b.number;
        });
        return order;
    }

    // ---- CAMPAIGNS

    public int campaign(boolean isPercent, int value, int least) {
        argument(value >= 1 && value <= (isPercent ? 90 : 200));
        argument(least >= 0 && least <= 500);
        state(campaigns.size() < 6);
        Campaign campaign = new Campaign();
        campaign.isPercent = isPercent;
        campaign.value = value;
        campaign.least = least;
        campaigns.add(campaign);
        return campaigns.size() - 1;
    }

    public boolean bar(int campaign, int other, boolean is) {
        Campaign a = one(campaigns, campaign);
        Campaign b = one(campaigns, other);
        argument(a != b);
        boolean before = a.bars.contains(b);
        a.bars.remove(b);
        b.bars.remove(a);
        if (is) {
            a.bars.add(b);
            b.bars.add(a);
        }
        return before;
    }

    /** Goes through every row of campaigns; answer[0] is the least price, answer[1] the fewest for it. */
    private void allRows(int price, List<Campaign> applied, int[] answer) {
        if (price < answer[0]) {
            answer[0] = price;
            answer[1] = applied.size();
        }
        if (price == answer[0]) {
            answer[1] = Math.min(answer[1], applied.size());
        }
        for (Campaign next : campaigns) {
            if (!applied.contains(next) && Collections.disjoint(applied, next.bars) && price >= next.least) {
                int less = next.isPercent ? price * next.value / 100 : next.value;
                applied.add(next);
                allRows(Math.max(0, price - less), applied, answer);
                applied.remove(applied.size() - 1);
            }
        }
    }

    private int[] bestAndFewest(int price) {
        argument(price >= 1 && price <= 1000);
        int[] answer = {price, 0};
        allRows(price, new ArrayList<>(), answer);
        return answer;
    }

    public int best(int price) {
        return bestAndFewest(price)[0];
    }

    public int bestAnew(int price) {
        return bestAndFewest(price)[0];
    }

    public int fewest(int price) {
        return bestAndFewest(price)[1];
    }

    // ---- PAYMENTS, MARKS

    public int pay(int card, int price) {
        state(whyNot(card, price) == 0);
        Payment payment = new Payment();
        payment.card = cards.get(card);
        payment.month = month;
        payment.took = best(price);
        int missing = payment.took;
        for (Lot lot : order(payment.card)) {
            int part = Math.min(missing, lot.left);
            if (part > 0) {
                lot.left -= part;
                missing -= part;
                payment.from.add(lot);
                payment.open.put(lot, part);
            }
        }
        payment.card.use = month;
        payments.add(payment);
        return payments.size() - 1;
    }

    public int whyNot(int card, int price) {
        Card it = one(cards, card);
        argument(price >= 1 && price <= 1000);
        if (it.state == CLOSED) {
            return 1;
        }
        if (it.state == FROZEN) {
            return 2;
        }
        if (it.chain.dead) {
            return 3;
        }
        if (best(price) > balance(it)) {
            return 4;
        }
        return payments.size() == 40 ? 5 : 0;
    }

    public int giveBack(int payment, int coins) {
        Payment it = one(payments, payment);
        argument(coins >= 1 && coins <= it.net());
        state(!it.card.chain.dead);
        Map<Lot, Integer> parts = new LinkedHashMap<>();
        int missing = coins;
        int late = 0;
        for (int i = it.from.size() - 1; i >= 0; i--) {
            Lot lot = it.from.get(i);
            int part = Math.min(missing, it.open.get(lot));
            parts.put(lot, part);
            missing -= part;
            late += expired(lot) ? part : 0;
        }
        state(late == 0 || lots.size() < 60);
        parts.forEach((lot, part) -> {
            it.open.merge(lot, -part, Integer::sum);
            lot.left += expired(lot) ? 0 : part;
        });
        if (late > 0) {
            comes(it.card, RETURNED, late);
        }
        return it.net();
    }

    private boolean expired(Lot lot) {
        return lot.end != null && month >= lot.end;
    }

    private int marks(Card card, boolean pending) {
        int sum = 0;
        for (Payment payment : payments) {
            boolean isPending = payment.month == month || payment.month + 1 == month;
            if (payment.card == card && isPending == pending) {
                sum += payment.net() / 10;
            }
        }
        return sum;
    }

    public int convert(int card, int marks) {
        Card it = one(cards, card);
        argument(marks >= 5 && marks <= 500 && marks % 5 == 0);
        state(it.state == OPEN && !it.chain.dead && marks(it, false) - it.converted >= marks && lots.size() < 60);
        it.converted += marks;
        comes(it, CONVERTED, marks / 5);
        it.use = month;
        return marks / 5;
    }

    // ---- joining, codes

    public int join(int card, int other) {
        Card a = one(cards, card);
        Card b = one(cards, other);
        argument(a != b);
        state(a.state == OPEN && b.state == OPEN && a.chain == b.chain && !a.chain.dead);
        for (Lot lot : lots) {
            lot.card = lot.card == b ? a : lot.card;
        }
        for (Payment payment : payments) {
            payment.card = payment.card == b ? a : payment.card;
        }
        a.converted += b.converted;
        b.converted = 0;
        b.state = CLOSED;
        b.misses = 0;
        a.use = month;
        return balance(a);
    }

    public boolean attempt(int card, int code) {
        Card it = one(cards, card);
        argument(code >= 0 && code <= 99999);
        state(it.state == OPEN);
        it.misses = code == it.code ? 0 : it.misses + 1;
        if (it.misses == 3) {
            it.state = FROZEN;
            it.misses = 0;
        }
        return code == it.code;
    }

    public boolean free(int card) {
        Card it = one(cards, card);
        boolean was = it.state == FROZEN;
        it.state = was ? OPEN : it.state;
        return was;
    }

    // ---- MONTHS, deaths

    public int pass() {
        state(month < 240);
        month++;
        for (Card card : cards) {
            card.misses = 0;
        }
        for (Card card : cards) {
            for (Lot lot : lots) {
                if (lot.card == card && lot.end != null && lot.end == month) {
                    ends(lot, card);
                }
            }
            if (month - card.use >= 12) {
                int fee = Math.min(card.fee, balance(card));
                card.chain.income += fee;
                for (; fee > 0; fee--) {
                    order(card).get(0).left--;
                }
            }
        }
        return month;
    }

    private void ends(Lot lot, Card card) {
        if (lot.origin == CONVERTED || lot.origin == GRANTED) {
            card.chain.voided += lot.left;
        } else {
            int owed = lot.left * card.share / 100;
            card.chain.owed.merge(card.land, owed, Integer::sum);
            card.chain.income += lot.left - owed;
        }
        lot.left = 0;
    }

    public int die(int chain, int estate) {
        Chain it = one(chains, chain);
        argument(estate >= 0 && estate <= 9999);
        state(!it.dead);
        it.dead = true;
        int rest = estate;
        for (int origin = 0; origin < 4; origin++) {
            int ahead = rest;
            int claim = 0;
            for (Lot lot : lots) {
                claim += lot.card.chain == it && lot.origin == origin ? lot.left : 0;
            }
            for (Lot lot : lots) {
                if (lot.card.chain == it && lot.origin == origin && lot.left > 0) {
                    int part = ahead >= claim ? lot.left : ahead * lot.left / claim;
                    it.paidOut += part;
                    it.lost += lot.left - part;
                    rest -= part;
                    lot.left = 0;
                }
            }
        }
        return rest;
    }

    // ---- what there is

    public int month() {
        return month;
    }

    public int ofCard(int card, int what) {
        Card it = one(cards, card);
        argument(what >= 0 && what <= 7);
        return new int[] {it.state, balance(it), it.use, it.misses, it.code, marks(it, false) - it.converted,
            marks(it, true), it.life}[what];
    }

    public int ofLot(int lot, int what) {
        Lot it = one(lots, lot);
        argument(what >= 0 && what <= 4);
        return new int[] {cards.indexOf(it.card), it.origin, it.left, it.end == null ? NONE : it.end, it.begin}[what];
    }

    public int orderAt(int card, int place) {
        List<Lot> order = order(one(cards, card));
        if (place < 0) {
            throw new IndexOutOfBoundsException();
        }
        return place < order.size() ? order.get(place).number : NONE;
    }

    public int ofPayment(int payment, int what) {
        Payment it = one(payments, payment);
        argument(what >= 0 && what <= 4);
        return new int[] {cards.indexOf(it.card), it.took, it.net(), it.month, it.net() / 10}[what];
    }

    public int taken(int payment, int lot) {
        return one(payments, payment).open.getOrDefault(one(lots, lot), 0);
    }

    private int left(Chain chain) {
        int sum = 0;
        for (Lot lot : lots) {
            sum += lot.card.chain == chain ? lot.left : 0;
        }
        return sum;
    }

    private int net(Chain chain) {
        int sum = 0;
        for (Payment payment : payments) {
            sum += payment.card.chain == chain ? payment.net() : 0;
        }
        return sum;
    }

    public int ofChain(int chain, int what) {
        Chain it = one(chains, chain);
        argument(what >= 0 && what <= 8);
        return new int[] {it.received, it.came, left(it), net(it), it.income, it.voided, it.paidOut, it.lost,
            it.dead ? 1 : 0}[what];
    }

    public int owed(int land, int chain) {
        Land to = one(lands, land);
        return one(chains, chain).owed.getOrDefault(to, 0);
    }

    /** What the LOTS have LEFT, and no accounts: the program must come to the same by its accounts. */
    public int leftAnew(int chain) {
        return left(one(chains, chain));
    }

    public int booked(int chain) {
        Chain it = one(chains, chain);
        int sum = 0;
        for (Lot lot : lots) {
            if (lot.card.chain == it && lot.origin == BOUGHT && lot.end != null) {
                sum += lot.left * (month - lot.begin) * it.rate / (100 * (lot.end - lot.begin));
            }
        }
        return sum;
    }
}
