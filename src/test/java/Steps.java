/** Short ways to states that many tests need. */
final class Steps {
    private Steps() {
    }

    static void pass(Works x, int months) {
        for (int i = 0; i < months; i++) {
            x.pass();
        }
    }

    static void fillLots(Works x, int card) {
        int lots = countLots(x);
        for (int i = lots; i < 60; i++) {
            x.load(card, 1, false);
        }
    }

    static void freeze(Works x, int card) {
        int wrong = x.ofCard(card, 4) == 0 ? 1 : 0;
        for (int i = 0; i < 3; i++) {
            x.attempt(card, wrong);
        }
    }

    static int countLots(Works x) {
        for (int lot = 0; ; lot++) {
            try {
                x.ofLot(lot, 0);
            } catch (IndexOutOfBoundsException e) {
                return lot;
            }
        }
    }
}
