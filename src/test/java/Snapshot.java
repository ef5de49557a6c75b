/** All that can be asked of an object, as one text. */
final class Snapshot {
    private static final int[] PRICES = {1, 10, 99, 250, 500, 777, 1000};

    private Snapshot() {
    }

    static String of(Face face) {
        StringBuilder text = new StringBuilder();
        text.append("month ").append(face.month()).append('\n');
        int lots = countOf(lot -> face.ofLot(lot, 0));
        cards(face, text);
        lots(face, text, lots);
        payments(face, text, lots);
        chains(face, text);
        for (int price : PRICES) {
            text.append("price ").append(price).append(": ").append(face.best(price)).append(' ')
                .append(face.bestAnew(price)).append(' ').append(face.fewest(price)).append('\n');
        }
        return text.toString();
    }

    private interface Question {
        int ask(int number);
    }

    private static int countOf(Question question) {
        for (int number = 0; ; number++) {
            try {
                question.ask(number);
            } catch (IndexOutOfBoundsException e) {
                return number;
            }
        }
    }

    private static void cards(Face face, StringBuilder text) {
        int cards = countOf(card -> face.ofCard(card, 0));
        for (int card = 0; card < cards; card++) {
            text.append("card ").append(card).append(':');
            for (int what = 0; what <= 7; what++) {
                text.append(' ').append(face.ofCard(card, what));
            }
            text.append(" order");
            for (int place = 0; place == 0 || face.orderAt(card, place - 1) != -1; place++) {
                text.append(' ').append(face.orderAt(card, place));
            }
            text.append(" whyNot ").append(face.whyNot(card, 100)).append('\n');
        }
    }

    private static void lots(Face face, StringBuilder text, int lots) {
        for (int lot = 0; lot < lots; lot++) {
            text.append("lot ").append(lot).append(':');
            for (int what = 0; what <= 4; what++) {
                text.append(' ').append(face.ofLot(lot, what));
            }
            text.append('\n');
        }
    }

    private static void payments(Face face, StringBuilder text, int lots) {
        int payments = countOf(payment -> face.ofPayment(payment, 0));
        for (int payment = 0; payment < payments; payment++) {
            text.append("payment ").append(payment).append(':');
            for (int what = 0; what <= 4; what++) {
                text.append(' ').append(face.ofPayment(payment, what));
            }
            text.append(" taken");
            for (int lot = 0; lot < lots; lot++) {
                text.append(' ').append(face.taken(payment, lot));
            }
            text.append('\n');
        }
    }

    private static void chains(Face face, StringBuilder text) {
        for (int chain = 0; chain < 4; chain++) {
            text.append("chain ").append(chain).append(':');
            for (int what = 0; what <= 8; what++) {
                text.append(' ').append(face.ofChain(chain, what));
            }
            text.append(" left ").append(face.leftAnew(chain)).append(" booked ").append(face.booked(chain));
            text.append(" owed");
            for (int land = 0; land < 3; land++) {
                text.append(' ').append(face.owed(land, chain));
            }
            text.append('\n');
        }
    }
}
