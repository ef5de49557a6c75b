/** The program behind the face that the tests ask. */
final class Real implements Face {
    private final Voucherworks works;

    Real(Voucherworks works) {
        this.works = works;
    }

    public int law(int land, int life, int fee, int share) { return works.law(land, life, fee, share); }
    public int rate(int chain, int rate) { return works.rate(chain, rate); }
    public int sell(int chain, int land, int coins) { return works.sell(chain, land, coins); }
    public int load(int card, int coins, boolean isGranted) { return works.load(card, coins, isGranted); }
    public int campaign(boolean isPercent, int value, int least) { return works.campaign(isPercent, value, least); }
    public boolean bar(int campaign, int other, boolean is) { return works.bar(campaign, other, is); }
    public int best(int price) { return works.best(price); }
    public int bestAnew(int price) { return works.bestAnew(price); }
    public int fewest(int price) { return works.fewest(price); }
    public int pay(int card, int price) { return works.pay(card, price); }
    public int whyNot(int card, int price) { return works.whyNot(card, price); }
    public int giveBack(int payment, int coins) { return works.giveBack(payment, coins); }
    public int convert(int card, int marks) { return works.convert(card, marks); }
    public int join(int card, int other) { return works.join(card, other); }
    public boolean attempt(int card, int code) { return works.attempt(card, code); }
    public boolean free(int card) { return works.free(card); }
    public int pass() { return works.pass(); }
    public int die(int chain, int estate) { return works.die(chain, estate); }
    public int month() { return works.month(); }
    public int ofCard(int card, int what) { return works.ofCard(card, what); }
    public int ofLot(int lot, int what) { return works.ofLot(lot, what); }
    public int orderAt(int card, int place) { return works.orderAt(card, place); }
    public int ofPayment(int payment, int what) { return works.ofPayment(payment, what); }
    public int taken(int payment, int lot) { return works.taken(payment, lot); }
    public int ofChain(int chain, int what) { return works.ofChain(chain, what); }
    public int owed(int land, int chain) { return works.owed(land, chain); }
    public int leftAnew(int chain) { return works.leftAnew(chain); }
    public int booked(int chain) { return works.booked(chain); }
}
