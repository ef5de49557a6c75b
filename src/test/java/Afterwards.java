import java.util.ArrayList;
import java.util.List;

/** All that an object answers from now on: every question, and rows of other calls, each on an object of its own. */
final class Afterwards {
    private static final int CARDS = 12;
    private static final int PAYMENTS = 40;
    private static final int CAMPAIGNS = 6;
    private static final int CHAINS = 4;
    private static final int LANDS = 3;

    private interface Row {
        void tell(Afterwards on);
    }

    interface Call {
        Object make();
    }

    private final Works works;
    private final StringBuilder text = new StringBuilder();

    private Afterwards(Works works) {
        this.works = works;
    }

    /** First all questions, then a text for each row of calls; a row ends early where the promised calls end. */
    static List<String> of(Works works) {
        List<String> all = new ArrayList<>();
        if (works.callsLeft() == 0) {
            return all;
        }
        all.add(Snapshot.of(works.asked()));
        Row[] rows = {Afterwards::lawsAndRates, Afterwards::bars, Afterwards::sales, Afterwards::loads,
            Afterwards::payments, Afterwards::givingBack, Afterwards::converting, Afterwards::joining,
            Afterwards::codes, Afterwards::months, Afterwards::deaths};
        for (Row row : rows) {
            Afterwards on = new Afterwards(works.again());
            row.tell(on);
            all.add(on.text.toString());
        }
        return all;
    }

    static String outcome(Call call) {
        try {
            return String.valueOf(call.make());
        } catch (RuntimeException e) {
            return "throws " + e.getClass().getName();
        }
    }

    private void step(String name, Call call) {
        if (works.callsLeft() > 0) {
            text.append(name).append(": ").append(outcome(call)).append('\n');
        }
    }

    private void chains(String when, int what) {
        for (int chain = 0; chain < CHAINS; chain++) {
            int of = chain;
            step(when + ", ofChain(" + of + ", " + what + ")", () -> works.ofChain(of, what));
        }
    }

    private void balances(String when) {
        for (int card = 0; card < CARDS; card++) {
            int of = card;
            step(when + ", BALANCE of card " + of, () -> works.ofCard(of, 1));
        }
    }

    private void lawsAndRates() {
        for (int land = 0; land < LANDS; land++) {
            int of = land;
            step("law(" + of + ")", () -> works.law(of, 24, 2, 50));
        }
        for (int chain = 0; chain < CHAINS; chain++) {
            int of = chain;
            step("rate(" + of + ")", () -> works.rate(of, 100));
            step("booked(" + of + ")", () -> works.booked(of));
        }
    }

    private void bars() {
        for (int other = 1; other < CAMPAIGNS; other++) {
            for (int campaign = 0; campaign < other; campaign++) {
                int one = campaign;
                int another = other;
                step("bar(" + one + ", " + another + ")", () -> works.bar(one, another, true));
            }
        }
        step("campaign", () -> works.campaign(false, 3, 1));
        for (int price = 1; price <= 1000; price += 111) {
            int of = price;
            step("best(" + of + ")", () -> works.best(of));
            step("fewest(" + of + ")", () -> works.fewest(of));
        }
    }

    /** What FEE and SHARE a LAND has shows in what becomes of a CARD that is sold there. */
    private void sales() {
        for (int land = 0; land < LANDS; land++) {
            for (int chain = 0; chain < CHAINS; chain++) {
                int in = land;
                int of = chain;
                step("sell(" + of + ", " + in + ")", () -> works.sell(of, in, 77));
            }
        }
        for (int month = 1; month <= 60; month++) {
            int passed = month;
            step(passed + " MONTHS behind sales", works::pass);
            if (month == 6 || month == 12 || month == 13 || month == 24 || month == 60) {
                balances(passed + " MONTHS behind sales");
                owed(passed + " MONTHS behind sales");
            }
        }
    }

    private void owed(String when) {
        for (int chain = 0; chain < CHAINS; chain++) {
            for (int land = 0; land < LANDS; land++) {
                int of = chain;
                int to = land;
                step(when + ", owed(" + to + ", " + of + ")", () -> works.owed(to, of));
            }
        }
    }

    private void loads() {
        for (int card = 0; card < CARDS; card++) {
            int on = card;
            step("load(" + on + ") GRANTED", () -> works.load(on, 9, true));
            step("load(" + on + ") BOUGHT", () -> works.load(on, 8, false));
            step("ofCard(" + on + ", 2) then", () -> works.ofCard(on, 2));
        }
        chains("behind loads", 0);
        chains("behind loads", 1);
    }

    private void payments() {
        for (int card = 0; card < CARDS; card++) {
            int with = card;
            step("pay(" + with + ", 4)", () -> works.pay(with, 4));
            step("pay(" + with + ", 40)", () -> works.pay(with, 40));
            step("orderAt(" + with + ", 0) then", () -> works.orderAt(with, 0));
            step("ofCard(" + with + ", 6) then", () -> works.ofCard(with, 6));
        }
        chains("behind payments", 3);
    }

    private void givingBack() {
        for (int payment = 0; payment < PAYMENTS; payment++) {
            int of = payment;
            step("giveBack(" + of + ", 1)", () -> works.giveBack(of, 1));
            step("giveBack(" + of + ", 7)", () -> works.giveBack(of, 7));
        }
        balances("behind giving back");
    }

    private void converting() {
        for (int card = 0; card < CARDS; card++) {
            int of = card;
            step("convert(" + of + ", 5)", () -> works.convert(of, 5));
            step("ofCard(" + of + ", 5) then", () -> works.ofCard(of, 5));
        }
    }

    private void joining() {
        for (int card = 1; card < CARDS; card++) {
            int other = card;
            step("join(0, " + other + ")", () -> works.join(0, other));
            step("join(" + other + ", 1)", () -> works.join(other, 1));
            step("ofCard(" + other + ", 0) then", () -> works.ofCard(other, 0));
        }
    }

    private void codes() {
        for (int card = 0; card < CARDS; card++) {
            int at = card;
            for (int miss = 0; miss < 3; miss++) {
                step("attempt(" + at + ", 1)", () -> works.attempt(at, 1));
                step("ofCard(" + at + ", 3) then", () -> works.ofCard(at, 3));
            }
            step("free(" + at + ")", () -> works.free(at));
        }
    }

    private void months() {
        for (int month = 1; month <= 25; month++) {
            int passed = month;
            step(passed + " MONTHS on", works::pass);
            chains(passed + " MONTHS on", 4);
            chains(passed + " MONTHS on", 5);
        }
        owed("25 MONTHS on");
    }

    private void deaths() {
        for (int chain = 0; chain < CHAINS; chain++) {
            int of = chain;
            step("die(" + of + ", 137)", () -> works.die(of, 137));
        }
        chains("behind deaths", 6);
        chains("behind deaths", 7);
        for (int chain = 0; chain < CHAINS; chain++) {
            int of = chain;
            step("leftAnew(" + of + ") behind deaths", () -> works.leftAnew(of));
        }
    }
}
