import java.util.List;

/**
 * What an object answers, told in one text, to see whether two objects stand alike. In the end it reads the buffer,
 * undoes all that can be undone, and restores, so that the object is of no use afterwards.
 */
final class Witness {
    private static final int[] DAYS = {0, 1, 2, 30};

    private final SkiPasses x;
    private final StringBuilder told = new StringBuilder();

    private Witness(SkiPasses x) {
        this.x = x;
    }

    static String of(SkiPasses x) {
        Witness witness = new Witness(x);
        witness.tellAll();
        witness.tellPast();
        return witness.told.toString();
    }

    private void tell(String name, Check.Call call) {
        told.append(name).append('=').append(Check.outcome(call)).append('\n');
    }

    private void tellEach(String name, int most, java.util.function.IntFunction<Object> answer) {
        for (int i = 0; i <= most; i++) {
            int what = i;
            tell(name + " " + i, () -> answer.apply(what));
        }
    }

    private void tellAll() {
        tellEach("system", 9, what -> x.system(what));
        tellEach("account", 4, what -> x.account(what));
        tellEach("refusal", 3, what -> x.refusal(what));
        tell("errorPosition", () -> x.errorPosition());
        tell("refusedOrder", () -> x.refusedOrder());
        tell("meanRides", () -> x.meanRides());
        tell("isConsistent", () -> x.isConsistent());
        for (int gate = 0; gate < x.system(3); gate++) {
            tellGate(gate);
        }
        for (int product = 0; product < x.system(4); product++) {
            tellProduct(product);
        }
        for (int card = 0; card < x.system(5); card++) {
            tellCard(card);
        }
        for (int partner : List.of(0, 1, 2, 3)) {
            tellEach("partner " + partner, 3, what -> x.partner(partner, what));
        }
    }

    private void tellGate(int gate) {
        tellEach("gate " + gate, 5, what -> x.gate(gate, what));
        for (int day : DAYS) {
            tell("closed " + gate + " " + day, () -> x.closedMinutes(gate, day));
        }
    }

    private void tellProduct(int product) {
        tellEach("product " + product, 8, what -> x.product(product, what));
        for (int day : DAYS) {
            tell("isClosedDay " + product + " " + day, () -> x.isClosedDay(product, day));
        }
    }

    private void tellCard(int card) {
        tellEach("card " + card, 8, what -> x.card(card, what));
        tell("openGates " + card, () -> x.openGates(card));
        tell("refundable " + card, () -> x.refundable(card));
        int rides = x.card(card, 2);
        for (int index = 0; index < rides; index++) {
            int asked = index;
            tell("ride " + card + " " + index, () -> x.ride(card, asked, true));
            tell("minute " + card + " " + index, () -> x.ride(card, asked, false));
        }
    }

    private void tellPast() {
        tell("read", () -> x.read());
        tell("errorPosition", () -> x.errorPosition());
        tell("refusedOrder", () -> x.refusedOrder());
        for (int left = x.system(9); left > 0; left--) {
            tell("undo", () -> x.undo());
            tellSums();
        }
        tell("restore", () -> x.restore());
        tellSums();
    }

    private void tellSums() {
        tellEach("system", 7, what -> x.system(what));
        tell("account", () -> x.account(4));
    }
}
