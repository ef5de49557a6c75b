/** Long runs of calls, made by a fixed row of numbers, on the program and on the model: both answer alike. */
final class ModelTest {
    private static final int RUNS = 600;
    private static final int[] ODD = {-1, Integer.MIN_VALUE, Integer.MAX_VALUE, 0, 1000000, 13, 61, 1001, 501, 41};

    private long seed;
    private final StringBuilder told = new StringBuilder();
    private final int[] weights = new int[28];
    private int stray;

    private ModelTest(long seed) {
        this.seed = seed * 7919 + 17;
        for (int kind = 0; kind < weights.length; kind++) {
            weights[kind] = 1 + below(kind < 20 ? 6 : 3);
        }
        // Some runs live through many MONTHS, some hold many CAMPAIGNS, some let CHAINS live.
        weights[17] = new int[] {1, 6, 30, 120}[below(4)];
        weights[4] = below(3);
        weights[18] = below(3) == 0 ? 1 : 0;
        weights[10] += below(12);
        // Some runs come to 60 LOTS while PAYMENTS with LOTS that have EXPIRED are open.
        weights[3] += new int[] {0, 0, 10, 30}[below(4)];
        stray = new int[] {0, 3, 12}[below(3)];
    }

    public static void main(String[] args) {
        for (int run = 0; run < RUNS; run++) {
            new ModelTest(run).run(run);
        }
        Check.end();
    }

    private int below(int bound) {
        seed = seed * 6364136223846793005L + 1442695040888963407L;
        return (int) ((seed >>> 33) % bound);
    }

    /** A number from low to high, now and then another one. */
    private int from(int low, int high) {
        if (below(100) < stray) {
            int odd = below(ODD.length + 2);
            return odd == 0 ? low - 1 : odd == 1 ? high + 1 : ODD[odd - 2];
        }
        return low + below(high - low + 1);
    }

    private void run(int run) {
        Works real = new Works();
        Face model = new Model();
        int lookAt = below(Works.MOST_CALLS - 50);
        // An attempt may ask for the CODE ahead of its own call.
        for (int call = 0; real.callsLeft() > 1; call++) {
            long before = seed;
            String want = outcome(model);
            String name = told.toString();
            seed = before;
            String got = outcome(real);
            String where = "run " + run + " call " + call + " " + name;
            Check.due(where, got, want);
            if (call == lookAt) {
                Check.alike(where + ": all that there is then", Snapshot.of(real.asked()), Snapshot.of(model));
            }
        }
    }

    private String outcome(Face face) {
        told.setLength(0);
        try {
            return String.valueOf(answer(face));
        } catch (RuntimeException e) {
            return "throws " + e.getClass().getName();
        }
    }

    private int kind() {
        int all = 0;
        for (int weight : weights) {
            all += weight;
        }
        int left = below(all);
        int kind = 0;
        while (left >= weights[kind]) {
            left -= weights[kind];
            kind++;
        }
        return kind;
    }

    private int say(String name, int number) {
        told.append(name).append(number);
        return number;
    }

    private boolean flip(String name) {
        return say(name, below(2)) == 1;
    }

    private int price() {
        return say(" price ", from(1, below(2) == 0 ? 60 : 1000));
    }

    private int card() {
        return say(" card ", from(0, below(3) == 0 ? 11 : 3));
    }

    private int code(Face face, int card) {
        if (below(4) > 0) {
            return from(0, 99999);
        }
        try {
            return face.ofCard(card, 4);
        } catch (RuntimeException e) {
            return 0;
        }
    }

    /** Often one CHAIN, so that its CARDS can be joined. */
    private int chain() {
        return say(" chain ", below(2) == 0 ? 1 : from(0, 3));
    }

    private int coins() {
        return say(" coins ", from(1, below(2) == 0 ? 40 : 500));
    }

    private long answer(Face face) {
        int kind = kind();
        told.append("kind ").append(kind);
        return kind < 12 ? firstHalf(face, kind) : kind < 20 ? secondHalf(face, kind) : question(face, kind);
    }

    private long firstHalf(Face face, int kind) {
        switch (kind) {
            case 0:
                return face.law(say(" land ", from(0, 2)), say(" life ", below(4) == 0 ? 0 : from(6, 60)),
                    say(" fee ", from(0, 9)), say(" share ", from(0, 100)));
            case 1: return face.rate(chain(), say(" rate ", from(0, 100)));
            case 2: return face.sell(chain(), say(" land ", from(0, 2)), coins());
            case 3: return face.load(card(), coins(), flip(" granted "));
            case 4: {
                boolean isPercent = flip(" percent ");
                return face.campaign(isPercent, say(" value ", from(1, isPercent ? 90 : 200)),
                    say(" least ", below(3) == 0 ? 0 : from(0, below(2) == 0 ? 100 : 500)));
            }
            case 5:
                return face.bar(say(" campaign ", from(0, 3)), say(" other ", from(0, 5)), flip(" is ")) ? 1 : 0;
            case 6: return face.best(price());
            case 7: return face.bestAnew(price());
            case 8: return face.fewest(price());
            case 9: return face.whyNot(card(), price());
            case 10: return face.pay(card(), price());
            default: return face.giveBack(say(" payment ", from(0, 39)), say(" coins ", from(1, 30)));
        }
    }

    private long secondHalf(Face face, int kind) {
        switch (kind) {
            case 12: return face.giveBack(say(" payment ", from(0, 5)), say(" coins ", from(1, 300)));
            case 13: return face.convert(card(), say(" marks ", below(8) == 0 ? from(5, 500) : 5 * from(1, 4)));
            case 14: return below(3) > 0 ? 0 : face.join(card(), card());
            case 15: {
                int card = card();
                return face.attempt(card, say(" code ", code(face, card))) ? 1 : 0;
            }
            case 16: return face.free(card()) ? 1 : 0;
            case 17: return face.pass();
            case 18: return below(6) > 0 ? 0 : face.die(chain(), say(" estate ", from(0, below(2) == 0 ? 300 : 9999)));
            default: return face.month();
        }
    }

    private long question(Face face, int kind) {
        switch (kind) {
            case 20: return face.ofCard(card(), say(" what ", from(0, 7)));
            case 21: return face.ofLot(say(" lot ", from(0, 30)), say(" what ", from(0, 4)));
            case 22: return face.orderAt(card(), say(" place ", from(0, 5)));
            case 23: return face.ofPayment(say(" payment ", from(0, 20)), say(" what ", from(0, 4)));
            case 24: return face.taken(say(" payment ", from(0, 20)), say(" lot ", from(0, 30)));
            case 25: return face.ofChain(chain(), say(" what ", from(0, 8)));
            case 26: return face.owed(say(" land ", from(0, 2)), chain());
            default: return face.leftAnew(chain()) + 100000L * face.booked(say(" booked ", from(0, 3)));
        }
    }
}
