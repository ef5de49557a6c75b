/** The document's face, so that the program and the model of the tests can be asked alike. */
interface Face {
    int law(int land, int life, int fee, int share);
    int rate(int chain, int rate);
    int sell(int chain, int land, int coins);
    int load(int card, int coins, boolean isGranted);
    int campaign(boolean isPercent, int value, int least);
    boolean bar(int campaign, int other, boolean is);
    int best(int price);
    int bestAnew(int price);
    int fewest(int price);
    int pay(int card, int price);
    int whyNot(int card, int price);
    int giveBack(int payment, int coins);
    int convert(int card, int marks);
    int join(int card, int other);
    boolean attempt(int card, int code);
    boolean free(int card);
    int pass();
    int die(int chain, int estate);
    int month();
    int ofCard(int card, int what);
    int ofLot(int lot, int what);
    int orderAt(int card, int place);
    int ofPayment(int payment, int what);
    int taken(int payment, int lot);
    int ofChain(int chain, int what);
    int owed(int land, int chain);
    int leftAnew(int chain);
    int booked(int chain);
}
