import java.lang.reflect.InvocationTargetException;
import java.lang.reflect.Proxy;
import java.util.ArrayList;
import java.util.List;

/** The program behind the face that the tests ask. It keeps its calls, so that it can be made again as it stands. */
final class Works implements Face {
    /** What later calls answer is free: no test may look at that. */
    static final int MOST_CALLS = 512;

    private interface Call {
        Object on(Voucherworks works);
    }

    private final Voucherworks works = new Voucherworks();
    private final List<Call> calls = new ArrayList<>();
    private List<String> afterwards = List.of();
    private int afterwardsAt = -1;

    int callsLeft() {
        return MOST_CALLS - calls.size();
    }

    /** Another object that has seen the same calls, refused ones too. */
    Works again() {
        Works copy = new Works();
        for (Call call : calls) {
            try {
                copy.make(call);
            } catch (RuntimeException e) {
                // The first object has thrown there, too; what a call throws is looked at where it is tested.
            }
        }
        return copy;
    }

    /** A face for questions without number: as many objects answer them as are needed for 512 calls each. */
    Face asked() {
        Works[] now = {again()};
        return (Face) Proxy.newProxyInstance(Face.class.getClassLoader(), new Class<?>[] {Face.class},
            (proxy, method, arguments) -> {
                if (now[0].callsLeft() == 0) {
                    now[0] = again();
                }
                try {
                    return method.invoke(now[0], arguments);
                } catch (InvocationTargetException e) {
                    throw e.getCause();
                }
            });
    }

    /** What is answered from now on, as texts. */
    List<String> afterwards() {
        if (afterwardsAt != calls.size()) {
            afterwards = Afterwards.of(this);
            afterwardsAt = calls.size();
        }
        return afterwards;
    }

    private Object make(Call call) {
        if (callsLeft() == 0) {
            throw new AssertionError("nothing is promised behind call " + MOST_CALLS);
        }
        calls.add(call);
        return call.on(works);
    }

    private int number(Call call) {
        return (int) make(call);
    }

    private boolean truth(Call call) {
        return (boolean) make(call);
    }

    public int law(int land, int life, int fee, int share) { return number(w -> w.law(land, life, fee, share)); }
    public int rate(int chain, int rate) { return number(w -> w.rate(chain, rate)); }
    public int sell(int chain, int land, int coins) { return number(w -> w.sell(chain, land, coins)); }
    public int load(int card, int coins, boolean isGranted) { return number(w -> w.load(card, coins, isGranted)); }
    public int campaign(boolean isPercent, int value, int least) {
        return number(w -> w.campaign(isPercent, value, least));
    }
    public boolean bar(int campaign, int other, boolean is) { return truth(w -> w.bar(campaign, other, is)); }
    public int best(int price) { return number(w -> w.best(price)); }
    public int bestAnew(int price) { return number(w -> w.bestAnew(price)); }
    public int fewest(int price) { return number(w -> w.fewest(price)); }
    public int pay(int card, int price) { return number(w -> w.pay(card, price)); }
    public int whyNot(int card, int price) { return number(w -> w.whyNot(card, price)); }
    public int giveBack(int payment, int coins) { return number(w -> w.giveBack(payment, coins)); }
    public int convert(int card, int marks) { return number(w -> w.convert(card, marks)); }
    public int join(int card, int other) { return number(w -> w.join(card, other)); }
    public boolean attempt(int card, int code) { return truth(w -> w.attempt(card, code)); }
    public boolean free(int card) { return truth(w -> w.free(card)); }
    public int pass() { return number(w -> w.pass()); }
    public int die(int chain, int estate) { return number(w -> w.die(chain, estate)); }
    public int month() { return number(w -> w.month()); }
    public int ofCard(int card, int what) { return number(w -> w.ofCard(card, what)); }
    public int ofLot(int lot, int what) { return number(w -> w.ofLot(lot, what)); }
    public int orderAt(int card, int place) { return number(w -> w.orderAt(card, place)); }
    public int ofPayment(int payment, int what) { return number(w -> w.ofPayment(payment, what)); }
    public int taken(int payment, int lot) { return number(w -> w.taken(payment, lot)); }
    public int ofChain(int chain, int what) { return number(w -> w.ofChain(chain, what)); }
    public int owed(int land, int chain) { return number(w -> w.owed(land, chain)); }
    public int leftAnew(int chain) { return number(w -> w.leftAnew(chain)); }
    public int booked(int chain) { return number(w -> w.booked(chain)); }
}
