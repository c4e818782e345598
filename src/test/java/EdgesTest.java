import java.io.IOException;

/** The promises clause by clause, at the boundary cases that each one names. */
public final class EdgesTest extends Steps {
    private static final Check check = new Check("EdgesTest");

    private static Sentences sentences;

    public static void main(String[] args) throws IOException {
        sentences = new Sentences(check, "Promise");
        check.run(EdgesTest::newObject, EdgesTest::clearMakesNew, EdgesTest::clearReturnsCards, EdgesTest::addGate,
            EdgesTest::addProduct, EdgesTest::gateNumbers, EdgesTest::productNumbers, EdgesTest::way,
            EdgesTest::advance, EdgesTest::systemNumbers, EdgesTest::setClosed, EdgesTest::closedMinutes,
            EdgesTest::isClosedDay, EdgesTest::sell, EdgesTest::pass, EdgesTest::reason, EdgesTest::openGates,
            EdgesTest::refusal, EdgesTest::block, EdgesTest::replace, EdgesTest::cardNumbers, EdgesTest::cardsInARow,
            EdgesTest::cardLeft, EdgesTest::ride, EdgesTest::refundable, EdgesTest::refund, EdgesTest::share,
            EdgesTest::partner, EdgesTest::account, EdgesTest::meanRides, EdgesTest::closedShare,
            EdgesTest::isConsistent, EdgesTest::append, EdgesTest::appendRefused, EdgesTest::readCarriesOut,
            EdgesTest::readRefused, EdgesTest::errorPosition, EdgesTest::refusedOrder, EdgesTest::undo,
            EdgesTest::snapshot, EdgesTest::restore);
        sentences.end();
    }

    private static void says(int promise, String... texts) {
        sentences.quote("Promise " + promise, texts);
    }

    private interface Numbered {
        Object answer(int number);
    }

    /** Each number outside of 0 to most is refused. */
    private static void dueOutside(Class<? extends RuntimeException> want, int most, Numbered call) {
        check.dueThrow(want, () -> call.answer(-1));
        check.dueThrow(want, () -> call.answer(most + 1));
        for (int wrong : OUTSIDE) {
            check.dueThrow(want, () -> call.answer(wrong));
        }
    }

    private static void dueEach(Numbered call, Object... answers) {
        for (int number = 0; number < answers.length; number++) {
            check.due(answers[number], call.answer(number));
        }
    }

    /** Gates 0 and 1 of partner 0 and gate 2 of partner 2, all at 0; products 0, 1, 2 of that kind, for two days. */
    private static SkiPasses threeKinds() {
        SkiPasses x = gates(0, 0, 0, 0, 2, 0);
        addProduct(x, 0, 2, 101);
        addProduct(x, 1, 2, 201);
        addProduct(x, 2, 2, 301);
        return x;
    }

    // ---- promises 1 to 7

    private static void newObject() {
        says(1, "Creates a system without gates, products and cards.");
        SkiPasses x = new SkiPasses();
        dueEach(what -> x.system(what), 480, 0, 8, 0, 0, 0, 0, 0, 0, 0);
        dueEach(what -> x.account(what), 0, 0, 0, 0, 0);
        dueEach(partner -> x.partner(partner, 0), 0, 0, 0, 0);
        check.dueThrow(INDEX, () -> x.gate(0, 0));
        check.dueThrow(INDEX, () -> x.product(0, 0));
        check.dueThrow(INDEX, () -> x.card(0, 0));
        check.dueThrow(INDEX, () -> x.sell(0));
        check.dueThrow(STATE, () -> x.undo());
        check.dueThrow(STATE, () -> x.restore());
        check.dueThrow(STATE, () -> x.refusal(0));
        check.dueThrow(ELEMENT, () -> x.errorPosition());
        check.dueThrow(ELEMENT, () -> x.refusedOrder());
        check.due(true, x.isConsistent());
        check.due(0, x.addGate(0, 0));
        check.due(0, new SkiPasses().system(3));
    }

    private static void clearMakesNew() {
        says(2, "Makes everything as in a new object, except the input buffer, the error position, the refused order "
            + "and the snapshot.");
        SkiPasses x = RefusedCalls.richWithText();
        x.clear();
        SkiPasses same = new SkiPasses();
        read(same, "s0;");
        read(same, "w0;s9");
        write(same, "w7;s0*2;o0");
        SkiPasses rich = RefusedCalls.rich();
        same.snapshot();
        x.snapshot();
        check.due(Witness.of(same), Witness.of(x));
        SkiPasses y = RefusedCalls.rich();
        check.due(3, y.errorPosition());
        y.clear();
        check.due(3, y.errorPosition());
        check.due(1, y.refusedOrder());
        check.due(0, y.system(3));
        check.due(rich.restore(), y.restore());
        check.due(Witness.of(rich).replaceAll("refusal.*", ""), Witness.of(y).replaceAll("refusal.*", ""));
        SkiPasses z = gates(0, 0);
        addProduct(z, 0, 1, 10);
        closeFor(z, 100, 0);
        z.setClosed(0, true);
        z.clear();
        check.due(0, z.addGate(1, 1));
        check.due(0, z.gate(0, 2));
        check.due(0, z.gate(0, 5));
        check.dueThrow(ARITHMETIC, () -> z.closedShare(0));
        check.due(1, z.system(9));
    }

    private static void clearReturnsCards() {
        says(2, "Returns the number of cards that there were.");
        SkiPasses x = new SkiPasses();
        check.due(0, x.clear());
        addProduct(x, 0, 1, 1);
        x.sell(0);
        x.replace(0);
        x.refund(1);
        check.due(2, x.clear());
        check.due(0, x.clear());
        addProduct(x, 0, 1, 1);
        read(x, "s0*9;s0*9;s0*2");
        check.due(20, x.clear());
        check.due(0, x.clear());
    }

    private static void addGate() {
        says(3, "Adds a gate, which is open.", "Returns the number of the gate.");
        SkiPasses x = new SkiPasses();
        for (int number = 0; number < 12; number++) {
            check.due(number, x.addGate(3 - number % 4, 99 - number));
            check.due(0, x.gate(number, 2));
            check.due(number + 1, x.system(3));
        }
        check.due(0, x.system(7));

        says(3, "Throws `IllegalStateException` if there are 12 gates");
        check.dueThrow(STATE, () -> x.addGate(0, 0));
        x.undo();
        check.due(11, x.addGate(0, 0));
        check.dueThrow(STATE, () -> x.addGate(0, 0));

        says(3, "Throws `IllegalArgumentException` if a number is out of range");
        SkiPasses y = new SkiPasses();
        dueOutside(ARGUMENT, 3, partner -> y.addGate(partner, 0));
        dueOutside(ARGUMENT, 99, position -> y.addGate(0, position));
        check.due(0, y.system(3));
        for (int partner = 0; partner < 4; partner++) {
            check.due(partner, y.addGate(partner, partner * 33));
        }
        dueOutside(ARGUMENT, 3, partner -> x.addGate(partner, 0));
    }

    private static void addProduct() {
        says(4, "Adds a product.", "Returns the number of the product.");
        SkiPasses x = new SkiPasses();
        for (int number = 0; number < 8; number++) {
            check.due(number, addProduct(x, number % 3, 9 - number, 9999 - number));
            check.due(9 - number, x.product(number, 1));
            check.due(number + 1, x.system(4));
        }

        says(4, "Throws `IllegalStateException` if there are 8 products");
        check.dueThrow(STATE, () -> addProduct(x, 0, 1, 1));
        x.undo();
        check.due(7, addProduct(x, 0, 1, 1));
        check.dueThrow(STATE, () -> addProduct(x, 0, 1, 1));

        says(4, "- `kind`: the kind, 0 to 2", "- `first`: the first hour", "- `last`: the last hour");
        SkiPasses y = new SkiPasses();
        dueOutside(ARGUMENT, 2, kind -> y.addProduct(kind, 1, 0, 23, 1, 1));
        dueEach(kind -> y.addProduct(kind, 1, kind * 11, kind * 11 + 1, 1, 1), 0, 1, 2);
        for (int kind = 0; kind < 3; kind++) {
            check.due(kind, y.product(kind, 0));
            check.due(kind * 11, y.product(kind, 2));
            check.due(kind * 11 + 1, y.product(kind, 3));
        }

        says(4, "Throws `IllegalArgumentException` if a number is out of range, or first is greater than last");
        SkiPasses z = new SkiPasses();
        dueOutside(ARGUMENT, 9, amount -> z.addProduct(0, amount, 0, 23, 1, 1));
        check.dueThrow(ARGUMENT, () -> z.addProduct(0, 0, 0, 23, 1, 1));
        dueOutside(ARGUMENT, 23, first -> z.addProduct(0, 1, first, 23, 1, 1));
        dueOutside(ARGUMENT, 23, last -> z.addProduct(0, 1, 0, last, 1, 1));
        dueOutside(ARGUMENT, 23, hour -> z.addProduct(0, 1, hour, hour, 1, 1));
        dueOutside(ARGUMENT, 15, partners -> z.addProduct(0, 1, 0, 23, partners, 1));
        check.dueThrow(ARGUMENT, () -> z.addProduct(0, 1, 0, 23, 0, 1));
        dueOutside(ARGUMENT, 9999, price -> z.addProduct(0, 1, 0, 23, 1, price));
        check.dueThrow(ARGUMENT, () -> z.addProduct(0, 1, 0, 23, 1, 0));
        for (int first = 0; first < 24; first += 23) {
            for (int last = 0; last < first; last++) {
                int later = first;
                int earlier = last;
                check.dueThrow(ARGUMENT, () -> z.addProduct(0, 1, later, earlier, 1, 1));
            }
        }
        check.due(0, z.system(4));
        dueOutside(ARGUMENT, 2, kind -> x.addProduct(kind, 1, 0, 23, 1, 1));
    }

    private static void gateNumbers() {
        says(5, "Returns a number of a gate.", "Returns the number.",
            "- `what`: 0 for its partner, 1 for its position, 2 for 1 if it is closed and 0 if not, 3 for its rides, "
            + "4 for its closed minutes of today so far, 5 for its closed minutes of all days");
        SkiPasses x = threeKinds();
        x.addGate(3, 99);
        sell(x, 1, 1);
        dueEach(what -> x.gate(3, what), 3, 99, 0, 0, 0, 0);
        rides(x, 0, 3, 2, 3);
        x.advance(109);
        x.pass(1, 3);
        goTo(x, 0, 959);
        x.setClosed(3, true);
        dueEach(what -> x.gate(3, what), 3, 99, 1, 3, 0, 0);
        x.advance(2);
        dueEach(what -> x.gate(3, what), 3, 99, 1, 3, 1, 1);
        goTo(x, 1, 0);
        dueEach(what -> x.gate(3, what), 3, 99, 1, 3, 0, 1);
        goTo(x, 1, 490);
        x.setClosed(3, false);
        x.advance(5);
        x.replace(0);
        dueEach(what -> x.gate(3, what), 3, 99, 0, 3, 10, 11);
        dueEach(what -> x.gate(2, what), 2, 0, 0, 1, 0, 0);
        dueEach(what -> x.gate(0, what), 0, 0, 0, 0, 0, 0);

        says(5, "Throws `IndexOutOfBoundsException` if there is no such gate");
        dueOutside(INDEX, 3, gate -> x.gate(gate, 0));
        dueOutside(INDEX, 11, gate -> x.gate(gate, 0));
        check.dueThrow(INDEX, () -> new SkiPasses().gate(0, 0));

        says(5, "Throws `IllegalArgumentException` if what is out of range");
        dueOutside(ARGUMENT, 5, what -> x.gate(0, what));
        dueOutside(ARGUMENT, 5, what -> x.gate(3, what));
    }

    private static void productNumbers() {
        says(6, "Returns a number of a product.", "Returns the number.",
            "- `what`: 0 for its kind, 1 for its amount, 2 for its first hour, 3 for its last hour, 4 for its "
            + "partners, 5 for its price, 6 for the gates of its partners, as a bit mask, 7 for the cards with it, "
            + "without replaced ones, 8 for the sum of the prices of these");
        SkiPasses x = new SkiPasses();
        x.addProduct(2, 9, 0, 23, 15, 9999);
        x.addProduct(0, 1, 8, 9, 4, 1);
        dueEach(what -> x.product(0, what), 2, 9, 0, 23, 15, 9999, 0, 0, 0);
        for (int gate = 0; gate < 12; gate++) {
            x.addGate(gate % 4, 0);
        }
        dueEach(what -> x.product(0, what), 2, 9, 0, 23, 15, 9999, 0b1111_1111_1111, 0, 0);
        dueEach(what -> x.product(1, what), 0, 1, 8, 9, 4, 1, 0b0100_0100_0100, 0, 0);
        read(x, "s0*9;s0*9;s1");
        check.due(18 * 9999, x.product(0, 8));
        x.replace(0);
        x.refund(1);
        x.block(2, true);
        x.setClosed(2, true);
        dueEach(what -> x.product(0, what), 2, 9, 0, 23, 15, 9999, 0b1111_1111_1111, 18, 18 * 9999);
        dueEach(what -> x.product(1, what), 0, 1, 8, 9, 4, 1, 0b0100_0100_0100, 1, 1);

        says(6, "Throws `IndexOutOfBoundsException` if there is no such product");
        dueOutside(INDEX, 1, product -> x.product(product, 0));
        dueOutside(INDEX, 7, product -> x.product(product, 0));
        check.dueThrow(INDEX, () -> new SkiPasses().product(0, 0));

        says(6, "Throws `IllegalArgumentException` if what is out of range");
        dueOutside(ARGUMENT, 8, what -> x.product(0, what));
        dueOutside(ARGUMENT, 8, what -> x.product(1, what));
    }

    private static void way() {
        says(7, "Returns the minutes that the way between two gates takes.", "Returns the minutes.",
            "- `other`: a gate, possibly the same");
        SkiPasses x = gates(0, 0, 0, 99, 3, 99, 3, 98);
        dueEach(other -> x.way(0, other), 0, 99, 109, 108);
        dueEach(other -> x.way(1, other), 99, 0, 10, 11);
        dueEach(other -> x.way(2, other), 109, 10, 0, 1);
        dueEach(other -> x.way(3, other), 108, 11, 1, 0);

        says(7, "Throws `IndexOutOfBoundsException` if there is no such gate");
        dueOutside(INDEX, 3, gate -> x.way(gate, 0));
        dueOutside(INDEX, 3, other -> x.way(0, other));
        dueOutside(INDEX, 11, other -> x.way(other, other));
        check.dueThrow(INDEX, () -> new SkiPasses().way(0, 0));
    }

    // ---- promises 8 to 12

    private static void advance() {
        says(8, "Lets the clock go on.", "Returns the clock then.", "- `minutes`: the minutes, 0 to 2880");
        SkiPasses x = new SkiPasses();
        check.due(480, x.advance(0));
        check.due(481, x.advance(1));
        check.due(481, x.system(0));
        check.due(3361, x.advance(2880));
        check.due(3361 + 2879, x.advance(2879));

        says(8, "Throws `IllegalArgumentException` if the number is out of range");
        dueOutside(ARGUMENT, 2880, minutes -> x.advance(minutes));
        check.due(3361 + 2879, x.system(0));

        says(8, "Throws `IllegalStateException` if the clock would be beyond 43200");
        goTo(x, 0, 43200 - 2880);
        x.advance(1);
        check.dueThrow(STATE, () -> x.advance(2880));
        check.due(43200 - 2879, x.system(0));
        check.due(43200, x.advance(2879));
        check.dueThrow(STATE, () -> x.advance(1));
        check.dueThrow(STATE, () -> x.advance(2880));
        check.due(43200, x.advance(0));
        SkiPasses y = new SkiPasses();
        goTo(y, 0, 43200 - 2880);
        check.due(43200, y.advance(2880));
    }

    private static void systemNumbers() {
        says(9, "Returns a number of the system.", "Returns the number.",
            "- `what`: 0 for the clock, 1 for the day, 2 for the hour, 3 for the gates, 4 for the products, 5 for the "
            + "cards, 6 for all rides, 7 for the gates that are closed, as a bit mask, 8 for the characters in the "
            + "buffer, 9 for the changes that can be undone");
        SkiPasses x = threeKinds();
        dueEach(what -> x.system(what), 480, 0, 8, 3, 3, 0, 0, 0, 0, 6);
        sell(x, 0, 1, 2);
        rides(x, 0, 0, 2);
        rides(x, 2, 1);
        x.replace(0);
        x.refund(3);
        x.setClosed(0, true);
        x.setClosed(2, true);
        goTo(x, 29, 1439);
        write(x, "s0*9;");
        dueEach(what -> x.system(what), 43199, 29, 23, 3, 3, 4, 3, 5, 5, 8);
        x.advance(1);
        dueEach(what -> x.system(what), 43200, 30, 0, 3, 3, 4, 3, 5, 5, 8);
        x.undo();
        dueEach(what -> x.system(what), 43199, 29, 23, 3, 3, 4, 3, 5, 5, 7);

        says(9, "Throws `IllegalArgumentException` if what is out of range");
        dueOutside(ARGUMENT, 9, what -> x.system(what));
        dueOutside(ARGUMENT, 9, what -> new SkiPasses().system(what));
    }

    private static void setClosed() {
        says(10, "Closes or opens a gate.", "Returns whether it was closed before.",
            "- `on`: whether it is closed from now on");
        SkiPasses x = gates(0, 0, 0, 0);
        check.due(false, x.setClosed(1, false));
        check.due(false, x.setClosed(1, true));
        check.due(1, x.gate(1, 2));
        check.due(true, x.setClosed(1, true));
        check.due(1, x.gate(1, 2));
        check.due(0, x.gate(0, 2));
        check.due(true, x.setClosed(1, false));
        check.due(0, x.gate(1, 2));
        check.due(false, x.setClosed(1, false));
        check.due(0, x.gate(1, 2));

        says(10, "Throws `IndexOutOfBoundsException` if there is no such gate");
        dueOutside(INDEX, 1, gate -> x.setClosed(gate, true));
        dueOutside(INDEX, 1, gate -> x.setClosed(gate, false));
        dueOutside(INDEX, 11, gate -> x.setClosed(gate, true));
        check.due(0, x.system(7));
    }

    private static void closedMinutes() {
        says(11, "Returns the closed minutes of a gate on a day so far.", "Returns the minutes, 0 for a day to come.");
        SkiPasses x = gates(0, 0, 0, 0);
        x.setClosed(1, true);
        check.due(0, x.closedMinutes(1, 0));
        x.advance(30);
        check.due(30, x.closedMinutes(1, 0));
        check.due(0, x.closedMinutes(0, 0));
        for (int day = 1; day <= 30; day++) {
            check.due(0, x.closedMinutes(1, day));
        }
        goTo(x, 2, 500);
        dueEach(day -> x.closedMinutes(1, day), 480, 480, 20, 0);
        x.undo();
        dueEach(day -> x.closedMinutes(1, day), 30, 0, 0, 0);

        says(11, "- `day`: the day, 0 to 30", "Throws `IllegalArgumentException` if the day is out of range");
        check.due(0, x.closedMinutes(1, 30));
        dueOutside(ARGUMENT, 30, day -> x.closedMinutes(1, day));
        goTo(x, 30, 0);
        check.due(480, x.closedMinutes(1, 29));
        check.due(0, x.closedMinutes(1, 30));
        check.dueThrow(ARGUMENT, () -> x.closedMinutes(0, 31));

        says(11, "Throws `IndexOutOfBoundsException` if there is no such gate");
        dueOutside(INDEX, 1, gate -> x.closedMinutes(gate, 0));
        dueOutside(INDEX, 11, gate -> x.closedMinutes(gate, 31));
    }

    private static void isClosedDay() {
        says(12, "Returns whether a day is closed for a product, by what was counted so far.",
            "Returns whether it is.");
        SkiPasses x = gates(1, 0, 1, 0);
        x.addProduct(0, 1, 0, 23, 1, 10);
        x.addProduct(0, 1, 0, 23, 2, 10);
        x.addProduct(0, 1, 0, 23, 3, 10);
        dueEach(product -> x.isClosedDay(product, 0), false, false, false);
        closeFor(x, 239, 0, 1);
        dueEach(product -> x.isClosedDay(product, 0), false, false, false);
        closeFor(x, 2, 1);
        dueEach(product -> x.isClosedDay(product, 0), false, true, true);
        goTo(x, 1, 0);
        dueEach(product -> x.isClosedDay(product, 0), false, true, true);
        dueEach(product -> x.isClosedDay(product, 1), false, false, false);
        x.addGate(0, 0);
        dueEach(product -> x.isClosedDay(product, 0), false, true, false);

        says(12, "- `day`: the day, 0 to 30", "Throws `IllegalArgumentException` if the day is out of range");
        check.due(false, x.isClosedDay(1, 30));
        dueOutside(ARGUMENT, 30, day -> x.isClosedDay(1, day));

        says(12, "Throws `IndexOutOfBoundsException` if there is no such product");
        dueOutside(INDEX, 2, product -> x.isClosedDay(product, 0));
        dueOutside(INDEX, 7, product -> x.isClosedDay(product, 31));
    }

    // ---- promises 13 to 21

    private static void sell() {
        says(13, "Sells a card.", "Returns the number of the card.");
        SkiPasses x = threeKinds();
        for (int card = 0; card < 20; card++) {
            check.due(card, x.sell(card % 3));
            check.due(card + 1, x.system(5));
            int[] due = {card % 3, 0, 0, 0, -1, card, 101 + 100 * (card % 3), 0, card % 3 == 2 ? 20 : 2};
            for (int what = 0; what < due.length; what++) {
                check.due(due[what], x.card(card, what));
            }
        }

        says(13, "Throws `IllegalStateException` if there are 20 cards");
        check.dueThrow(STATE, () -> x.sell(0));
        check.dueThrow(STATE, () -> x.sell(2));
        check.due(20, x.system(5));
        x.undo();
        check.due(19, x.sell(0));
        check.dueThrow(STATE, () -> x.sell(0));

        says(13, "Throws `IndexOutOfBoundsException` if there is no such product");
        SkiPasses y = threeKinds();
        dueOutside(INDEX, 2, product -> y.sell(product));
        dueOutside(INDEX, 7, product -> y.sell(product));
        check.due(0, y.system(5));
    }

    private static void pass() {
        says(14, "Lets a card pass a gate.", "Returns the number of rides on the card then.");
        SkiPasses x = threeKinds();
        sell(x, 0, 1);
        check.due(1, x.pass(0, 0));
        check.due(2, x.pass(0, 1));
        check.due(1, x.pass(1, 2));
        check.due(2, x.replace(0));
        x.advance(10);
        check.due(3, x.pass(2, 2));
        check.due(4, x.system(6));

        says(14, "Throws `UnsupportedOperationException` if it is refused", "the refusal is then kept");
        check.dueThrow(STATE, () -> x.refusal(0));
        check.dueThrow(UNSUPPORTED, () -> x.pass(2, 2));
        dueEach(index -> x.refusal(index), 1, 2, 4, 42);
        check.dueThrow(UNSUPPORTED, () -> x.pass(2, 0));
        dueEach(index -> x.refusal(index), 1, 2, 4, 41);
        check.dueThrow(UNSUPPORTED, () -> x.pass(0, 0));
        dueEach(index -> x.refusal(index), 1, 2, 22);
        check.due(3, x.card(2, 2));
        check.due(0, x.card(0, 2));
        check.due(4, x.system(6));

        says(14, "Throws `IndexOutOfBoundsException` if there is no such card or gate");
        dueOutside(INDEX, 2, card -> x.pass(card, 0));
        dueOutside(INDEX, 2, gate -> x.pass(1, gate));
        dueOutside(INDEX, 19, card -> x.pass(card, 0));
        dueOutside(INDEX, 11, gate -> x.pass(1, gate));
        check.due(22, x.refusal(2));
    }

    private static void reason() {
        says(15, "Returns the reason for which a gate would refuse a card now.", "Nothing is kept.",
            "Returns the reason, or 0 if it would pass.");
        SkiPasses x = threeKinds();
        x.addProduct(1, 1, 9, 9, 1, 10);
        sell(x, 0, 3);
        int changes = x.system(9);
        dueEach(gate -> x.reason(0, gate), 0, 0, 0);
        dueEach(gate -> x.reason(1, gate), 32, 32, 31);
        check.dueThrow(STATE, () -> x.refusal(0));
        check.due(0, x.system(6));
        check.due(changes, x.system(9));
        x.pass(0, 0);
        dueEach(gate -> x.reason(0, gate), 42, 0, 41);
        check.dueThrow(STATE, () -> x.refusal(0));
        check.due(1, x.system(6));
        check.dueThrow(UNSUPPORTED, () -> x.pass(1, 2));
        check.due(42, x.reason(0, 0));
        check.due(31, x.refusal(3));

        says(15, "Throws `IndexOutOfBoundsException` if there is no such card or gate");
        dueOutside(INDEX, 1, card -> x.reason(card, 0));
        dueOutside(INDEX, 2, gate -> x.reason(0, gate));
        dueOutside(INDEX, 19, card -> x.reason(card, 0));
        dueOutside(INDEX, 11, gate -> x.reason(0, gate));
    }

    private static void openGates() {
        says(16, "Returns the gates that a card would pass now.", "Returns the gates as a bit mask.");
        SkiPasses none = new SkiPasses();
        addProduct(none, 0, 1, 1);
        none.sell(0);
        check.due(0, none.openGates(0));
        SkiPasses x = new SkiPasses();
        for (int gate = 0; gate < 12; gate++) {
            x.addGate(gate % 2, gate);
        }
        addProduct(x, 1, 1, 10);
        x.addProduct(1, 1, 0, 23, 2, 10);
        sell(x, 0, 1);
        check.due(0b1111_1111_1111, x.openGates(0));
        check.due(0b1010_1010_1010, x.openGates(1));
        x.setClosed(11, true);
        check.due(0b0111_1111_1111, x.openGates(0));
        x.pass(0, 0);
        check.due(0, x.openGates(0));
        x.advance(4);
        check.due(0b0000_0001_0100, x.openGates(0));
        x.advance(1);
        check.due(0b0000_0001_0101, x.openGates(0));
        x.block(0, true);
        check.due(0, x.openGates(0));
        check.due(0b0010_1010_1010, x.openGates(1));
        check.dueThrow(STATE, () -> x.refusal(0));

        says(16, "Throws `IndexOutOfBoundsException` if there is no such card");
        dueOutside(INDEX, 1, card -> x.openGates(card));
        dueOutside(INDEX, 19, card -> x.openGates(card));
        check.dueThrow(INDEX, () -> new SkiPasses().openGates(0));
    }

    private static void refusal() {
        says(17, "Throws `IllegalStateException` if nothing was refused");
        SkiPasses x = threeKinds();
        x.addProduct(1, 1, 9, 9, 1, 10);
        sell(x, 0, 3);
        dueOutside(STATE, 0, index -> x.refusal(index));
        check.dueThrow(STATE, () -> x.refusal(0));
        check.due(32, x.reason(1, 0));
        check.due("UnsupportedOperationException", read(x, "b9"));
        check.dueThrow(STATE, () -> x.refusal(0));

        says(17, "Returns a number of the chain of the latest refusal.", "Returns the number.",
            "- `index`: the index in the chain, from 0");
        check.dueThrow(UNSUPPORTED, () -> x.pass(1, 0));
        dueEach(index -> x.refusal(index), 1, 2, 3, 32);
        x.block(1, true);
        dueEach(index -> x.refusal(index), 1, 2, 3, 32);
        check.dueThrow(UNSUPPORTED, () -> x.pass(1, 0));
        dueEach(index -> x.refusal(index), 1, 2, 21);
        x.setClosed(1, true);
        check.dueThrow(UNSUPPORTED, () -> x.pass(0, 1));
        dueEach(index -> x.refusal(index), 1, 11);

        says(17, "Throws `NoSuchElementException` if there is no such index");
        dueOutside(ELEMENT, 1, index -> x.refusal(index));
        check.dueThrow(UNSUPPORTED, () -> x.pass(1, 0));
        dueOutside(ELEMENT, 2, index -> x.refusal(index));
        x.block(1, false);
        check.dueThrow(UNSUPPORTED, () -> x.pass(1, 0));
        dueOutside(ELEMENT, 3, index -> x.refusal(index));
        x.clear();
        dueOutside(STATE, 0, index -> x.refusal(index));
    }

    private static void block() {
        says(18, "Blocks a card, or makes it usable again.", "Returns the state that it had.",
            "- `on`: whether it is blocked from now on");
        SkiPasses x = threeKinds();
        sell(x, 0, 1, 2, 0);
        x.pass(1, 0);
        check.due(0, x.block(1, false));
        check.due(0, x.card(1, 1));
        check.due(0, x.block(1, true));
        check.due(1, x.card(1, 1));
        check.due(1, x.block(1, true));
        check.due(1, x.card(1, 1));
        dueEach(card -> x.card(card, 1), 0, 1, 0, 0);
        check.due(1, x.block(1, false));
        check.due(0, x.card(1, 1));
        dueEach(what -> x.card(1, what), 1, 0, 1, 1, -1, 1, 201, 0, 1);

        says(18, "Throws `IllegalStateException` if it is replaced or refunded");
        x.replace(2);
        x.refund(3);
        for (boolean on : new boolean[] {true, false}) {
            check.dueThrow(STATE, () -> x.block(2, on));
            check.dueThrow(STATE, () -> x.block(3, on));
        }
        dueEach(card -> x.card(card, 1), 0, 0, 2, 3, 0);
        check.due(0, x.block(4, true));

        says(18, "Throws `IndexOutOfBoundsException` if there is no such card");
        dueOutside(INDEX, 4, card -> x.block(card, true));
        dueOutside(INDEX, 4, card -> x.block(card, false));
        dueOutside(INDEX, 19, card -> x.block(card, true));
    }

    private static void replace() {
        says(19, "Replaces a card by a new one, which is usable.", "Returns the number of the new card.");
        SkiPasses x = threeKinds();
        sell(x, 1, 0);
        x.pass(0, 2);
        x.block(0, true);
        check.due(2, x.replace(0));
        dueEach(what -> x.card(2, what), 1, 0, 1, 1, -1, 2, 201, 0, 1);
        dueEach(what -> x.card(0, what), 1, 2, 0, 0, 2, 2, 0, 0, 2);
        check.due(2, x.ride(2, 0, true));
        check.due(3, x.replace(1));
        dueEach(what -> x.card(3, what), 0, 0, 0, 0, -1, 3, 101, 0, 2);

        says(19, "Throws `IllegalStateException` if it is replaced or refunded, or there are 20 cards");
        check.dueThrow(STATE, () -> x.replace(0));
        check.dueThrow(STATE, () -> x.replace(1));
        x.refund(3);
        check.dueThrow(STATE, () -> x.replace(3));
        check.due(4, x.system(5));
        check.due(2, read(x, "s0*9;s0*6"));
        check.due(19, x.system(5));
        check.due(19, x.replace(2));
        check.dueThrow(STATE, () -> x.replace(4));
        check.dueThrow(STATE, () -> x.replace(19));
        check.due(20, x.system(5));
        check.due(0, x.card(19, 1));
        x.undo();
        check.due(19, x.replace(4));
        x.undo();
        check.due(1, read(x, "r4"));
        check.due(19, x.card(4, 4));
        check.due("UnsupportedOperationException", read(x, "r19"));

        says(19, "Throws `IndexOutOfBoundsException` if there is no such card");
        SkiPasses y = threeKinds();
        y.sell(0);
        dueOutside(INDEX, 0, card -> y.replace(card));
        dueOutside(INDEX, 19, card -> y.replace(card));
        check.due(1, y.system(5));
    }

    private static void cardNumbers() {
        says(20, "Returns a number of a card.", "Returns the number.", "1 for its state", "2 for its rides",
            "3 for its days", "7 for what was refunded");
        SkiPasses x = threeKinds();
        sell(x, 1, 1);
        dueEach(what -> x.card(0, what), 1, 0, 0, 0, -1, 0, 201, 0, 2);
        x.pass(0, 0);
        x.pass(0, 1);
        closeFor(x, 480, 0, 1, 2);
        goTo(x, 1, 0);
        x.pass(0, 0);
        x.block(0, true);
        dueEach(what -> x.card(0, what), 1, 1, 3, 2, -1, 0, 201, 0, 0);
        x.refund(0);
        dueEach(what -> x.card(0, what), 1, 3, 3, 2, -1, 0, 201, 100, 0);
        x.refund(1);
        dueEach(what -> x.card(1, what), 1, 3, 0, 0, -1, 1, 201, 0, 2);

        says(20, "- `what`: 0 for its product, that of the card that replaces it if it is replaced",
            "4 for the card that replaces it, -1 if none does", "6 for its price, 0 if it is replaced");
        SkiPasses y = threeKinds();
        sell(y, 2, 1, 0);
        y.replace(1);
        dueEach(card -> y.card(card, 0), 2, 1, 0, 1);
        dueEach(card -> y.card(card, 4), -1, 3, -1, -1);
        dueEach(card -> y.card(card, 6), 301, 0, 101, 201);
        y.refund(3);
        check.due(201, y.card(3, 6));

        says(20, "Throws `IndexOutOfBoundsException` if there is no such card");
        dueOutside(INDEX, 3, card -> y.card(card, 0));
        dueOutside(INDEX, 19, card -> y.card(card, 0));
        check.dueThrow(INDEX, () -> new SkiPasses().card(0, 0));

        says(20, "Throws `IllegalArgumentException` if what is out of range");
        dueOutside(ARGUMENT, 8, what -> y.card(0, what));
        dueOutside(ARGUMENT, 8, what -> y.card(1, what));
    }

    private static void cardsInARow() {
        says(20, "5 for the last one of the cards that replace one another, beginning with it");
        SkiPasses x = threeKinds();
        sell(x, 0, 1);
        check.due(0, x.card(0, 5));
        for (int card = 2; card < 20; card++) {
            check.due(card, x.replace(card == 2 ? 0 : card - 1));
        }
        check.due(19, x.card(0, 5));
        check.due(1, x.card(1, 5));
        for (int card = 2; card < 20; card++) {
            check.due(19, x.card(card, 5));
            check.due(card < 19 ? card + 1 : -1, x.card(card, 4));
        }
        x.undo();
        check.due(18, x.card(0, 5));
    }

    private static void cardLeft() {
        says(20, "8 for what is left of its product: for kind 0 the amount minus the number of days that lie between "
            + "its first day and today, the first day counted and today not, at least 0, or the amount if it has no "
            + "rides");
        SkiPasses x = gates(0, 0);
        addProduct(x, 0, 1, 10);
        addProduct(x, 0, 3, 10);
        sell(x, 0, 1, 1);
        goTo(x, 4, 1439);
        dueEach(card -> x.card(card, 8), 1, 3, 3);
        x.pass(0, 0);
        x.pass(1, 0);
        dueEach(card -> x.card(card, 8), 1, 3, 3);
        int[][] left = {{0, 2, 3}, {0, 1, 3}, {0, 0, 3}, {0, 0, 3}};
        for (int day = 5; day < 9; day++) {
            goTo(x, day, 0);
            int[] due = left[day - 5];
            dueEach(card -> x.card(card, 8), due[0], due[1], due[2]);
        }

        says(20, "for kind 1 the amount minus its days");
        SkiPasses y = gates(0, 0);
        addProduct(y, 1, 2, 10);
        sell(y, 0, 0);
        check.due(2, y.card(0, 8));
        y.pass(0, 0);
        check.due(1, y.card(0, 8));
        y.advance(5);
        y.pass(0, 0);
        check.due(1, y.card(0, 8));
        goTo(y, 9, 0);
        check.due(1, y.card(0, 8));
        y.pass(0, 0);
        check.due(0, y.card(0, 8));
        goTo(y, 12, 0);
        dueEach(card -> y.card(card, 8), 0, 2);

        says(20, "for kind 2 the rides that are left");
        SkiPasses z = gates(0, 0, 0, 0);
        addProduct(z, 2, 1, 10);
        addProduct(z, 2, 9, 10);
        sell(z, 0, 1);
        dueEach(card -> z.card(card, 8), 10, 90);
        for (int ride = 1; ride <= 10; ride++) {
            z.pass(0, ride % 2);
            z.pass(1, ride % 2);
            dueEach(card -> z.card(card, 8), 10 - z.card(0, 2), 90 - z.card(1, 2));
        }
        check.dueThrow(UNSUPPORTED, () -> z.pass(0, 1));
        dueEach(card -> z.card(card, 8), 0, 80);
    }

    private static void ride() {
        says(21, "Returns a number of a ride on a card.", "Returns the number.",
            "- `index`: the index of the ride, from 0 for the first one",
            "- `isGate`: true for its gate, false for its minute");
        SkiPasses x = threeKinds();
        sell(x, 1, 1);
        x.pass(1, 2);
        x.advance(10);
        x.pass(1, 1);
        x.pass(1, 0);
        dueEach(index -> x.ride(1, index, true), 2, 1, 0);
        dueEach(index -> x.ride(1, index, false), 480, 490, 490);
        x.replace(1);
        dueEach(index -> x.ride(2, index, true), 2, 1, 0);

        says(21, "Throws `NoSuchElementException` if there is no such ride");
        for (boolean isGate : new boolean[] {true, false}) {
            dueOutside(ELEMENT, 2, index -> x.ride(2, index, isGate));
            dueOutside(ELEMENT, -1, index -> x.ride(0, index, isGate));
            dueOutside(ELEMENT, -1, index -> x.ride(1, index, isGate));
        }

        says(21, "Throws `IndexOutOfBoundsException` if there is no such card");
        dueOutside(INDEX, 2, card -> x.ride(card, 0, true));
        dueOutside(INDEX, 2, card -> x.ride(card, 0, false));
        dueOutside(INDEX, 19, card -> x.ride(card, 0, true));
    }

    // ---- promises 22 to 29

    /** As threeKinds, with a card of each kind that passed gate 1; the day is closed then for all products. */
    private static SkiPasses afterClosedDay() {
        SkiPasses x = threeKinds();
        sell(x, 0, 1, 2);
        for (int card = 0; card < 3; card++) {
            x.pass(card, 1);
        }
        closeFor(x, 480, 0, 2);
        return x;
    }

    private static void refundable() {
        says(22, "Returns the refund of a card as things are, whatever its state is", "Returns the refund.");
        SkiPasses x = afterClosedDay();
        x.sell(1);
        dueEach(card -> x.refundable(card), 50, 100, 0, 0);
        x.block(0, true);
        x.block(1, true);
        dueEach(card -> x.refundable(card), 50, 100, 0, 0);
        x.block(0, false);
        check.due(50, x.refundable(0));
        x.addGate(3, 0);
        check.due(50, x.refundable(0));
        x.addGate(3, 0);
        dueEach(card -> x.refundable(card), 0, 0, 0, 0);

        says(22, "0 if it is replaced or refunded.");
        SkiPasses y = afterClosedDay();
        y.replace(0);
        check.due(100, y.refund(1));
        dueEach(card -> y.refundable(card), 0, 0, 0, 50);
        check.due(50, y.refund(3));
        dueEach(card -> y.refundable(card), 0, 0, 0, 0);

        says(22, "Throws `IndexOutOfBoundsException` if there is no such card");
        dueOutside(INDEX, 3, card -> y.refundable(card));
        dueOutside(INDEX, 19, card -> y.refundable(card));
    }

    private static void refund() {
        says(23, "Refunds a card.", "Returns the refund, possibly 0.");
        SkiPasses x = afterClosedDay();
        x.sell(1);
        x.block(1, true);
        dueEach(card -> x.refund(card), 50, 100, 0, 0);
        dueEach(card -> x.card(card, 1), 3, 3, 3, 3);
        dueEach(card -> x.card(card, 7), 50, 100, 0, 0);
        check.due(150, x.account(1));

        says(23, "Throws `IllegalStateException` if it is replaced or refunded");
        dueEach(card -> Check.outcome(() -> x.refund(card)), "IllegalStateException", "IllegalStateException",
            "IllegalStateException", "IllegalStateException");
        check.due(150, x.account(1));
        SkiPasses y = afterClosedDay();
        y.replace(0);
        check.dueThrow(STATE, () -> y.refund(0));
        check.due(2, y.card(0, 1));
        check.due(50, y.refund(3));
        check.dueThrow(STATE, () -> y.refund(0));

        says(23, "Throws `IndexOutOfBoundsException` if there is no such card");
        dueOutside(INDEX, 3, card -> y.refund(card));
        dueOutside(INDEX, 19, card -> y.refund(card));
    }

    private static void share() {
        says(24, "Returns the share of a partner in a card.", "Returns the share, 0 if the card has no rides.");
        SkiPasses x = threeKinds();
        sell(x, 0, 1);
        dueEach(partner -> x.share(0, partner), 0, 0, 0, 0);
        rides(x, 0, 2);
        dueEach(partner -> x.share(0, partner), 0, 0, 101, 0);
        rides(x, 0, 0);
        dueEach(partner -> x.share(0, partner), 51, 0, 50, 0);
        rides(x, 0, 2);
        dueEach(partner -> x.share(0, partner), 33, 0, 68, 0);
        x.replace(0);
        dueEach(partner -> x.share(0, partner), 0, 0, 0, 0);
        dueEach(partner -> x.share(1, partner), 0, 0, 0, 0);
        dueEach(partner -> x.share(2, partner), 33, 0, 68, 0);
        SkiPasses y = afterClosedDay();
        y.refund(1);
        dueEach(partner -> y.share(1, partner), 101, 0, 0, 0);

        says(24, "Throws `IndexOutOfBoundsException` if there is no such card or partner");
        dueOutside(INDEX, 2, card -> x.share(card, 0));
        dueOutside(INDEX, 3, partner -> x.share(1, partner));
        dueOutside(INDEX, 3, partner -> x.share(2, partner));
        dueOutside(INDEX, 19, card -> x.share(card, 0));
    }

    private static void partner() {
        says(25, "Returns a number of a partner.", "Returns the number.",
            "- `what`: 0 for all its shares, 1 for its rides, 2 for its gates, 3 for the cards with rides at its "
            + "gates");
        SkiPasses none = new SkiPasses();
        for (int partner = 0; partner < 4; partner++) {
            int asked = partner;
            dueEach(what -> none.partner(asked, what), 0, 0, 0, 0);
        }
        SkiPasses x = threeKinds();
        sell(x, 0, 1, 2, 2);
        rides(x, 0, 0, 2);
        rides(x, 1, 0, 1, 0);
        rides(x, 2, 2);
        x.replace(1);
        x.refund(2);
        dueEach(what -> x.partner(0, what), 51 + 201, 4, 2, 2);
        dueEach(what -> x.partner(1, what), 0, 0, 0, 0);
        dueEach(what -> x.partner(2, what), 50 + 301, 2, 1, 2);
        dueEach(what -> x.partner(3, what), 0, 0, 0, 0);

        says(25, "Throws `IndexOutOfBoundsException` if there is no such partner");
        dueOutside(INDEX, 3, partner -> x.partner(partner, 0));

        says(25, "Throws `IllegalArgumentException` if what is out of range");
        dueOutside(ARGUMENT, 3, what -> x.partner(0, what));
        dueOutside(ARGUMENT, 3, what -> x.partner(3, what));
    }

    private static void account() {
        says(26, "Returns an account.", "Returns the sum.",
            "- `what`: 0 for the prices of all cards, 1 for all refunds, 2 for all shares, 3 for all that is idle, 4 "
            + "for all refunds that could be paid now");
        SkiPasses none = new SkiPasses();
        dueEach(what -> none.account(what), 0, 0, 0, 0, 0);
        SkiPasses x = afterClosedDay();
        dueEach(what -> x.account(what), 603, 0, 603, 0, 150);
        x.sell(1);
        dueEach(what -> x.account(what), 804, 0, 603, 201, 150);
        x.block(0, true);
        x.replace(1);
        dueEach(what -> x.account(what), 804, 0, 603, 201, 150);
        x.refund(0);
        dueEach(what -> x.account(what), 804, 50, 553, 201, 100);
        x.refund(3);
        dueEach(what -> x.account(what), 804, 50, 553, 201, 100);
        x.refund(4);
        dueEach(what -> x.account(what), 804, 150, 453, 201, 0);
        SkiPasses full = new SkiPasses();
        addProduct(full, 0, 1, 9999);
        read(full, "s0*9;s0*9;s0*2");
        dueEach(what -> full.account(what), 199980, 0, 0, 199980, 0);

        says(26, "Throws `IllegalArgumentException` if what is out of range");
        dueOutside(ARGUMENT, 4, what -> x.account(what));
    }

    private static void meanRides() {
        says(27, "Returns the mean number of rides of the cards that are not replaced: all rides divided by the number "
            + "of these cards, both converted to double.", "Returns the mean.");
        SkiPasses x = threeKinds();
        sell(x, 1, 1, 1);
        check.due(0.0, x.meanRides());
        rides(x, 0, 0, 0);
        check.due(2.0 / 3.0, x.meanRides());
        x.replace(0);
        x.replace(3);
        check.due(2.0 / 3.0, x.meanRides());
        x.refund(4);
        x.block(1, true);
        check.due(2.0 / 3.0, x.meanRides());
        sell(x, 0, 0, 0, 0);
        check.due(2.0 / 7.0, x.meanRides());

        says(27, "Throws `ArithmeticException` if there are no such cards");
        SkiPasses y = threeKinds();
        check.dueThrow(ARITHMETIC, () -> y.meanRides());
        y.sell(0);
        check.due(0.0, y.meanRides());
        y.undo();
        check.dueThrow(ARITHMETIC, () -> y.meanRides());
        x.clear();
        check.dueThrow(ARITHMETIC, () -> x.meanRides());
    }

    private static void closedShare() {
        says(28, "Returns the share of the minutes that were closed among those that were counted for a gate, from the "
            + "beginning of day 0 up to the clock: the closed minutes divided by the number of minutes from 480 to 959 "
            + "of each day before the clock, both converted to float.", "Returns the share.");
        SkiPasses x = gates(0, 0, 0, 0);
        closeFor(x, 1, 0);
        dueEach(gate -> x.closedShare(gate), 1.0f, 0.0f);
        x.advance(1);
        dueEach(gate -> x.closedShare(gate), 0.5f, 0.0f);
        x.advance(1);
        dueEach(gate -> x.closedShare(gate), 1.0f / 3.0f, 0.0f);
        goTo(x, 0, 959);
        check.due(1.0f / 479.0f, x.closedShare(0));
        x.advance(1);
        check.due(1.0f / 480.0f, x.closedShare(0));
        goTo(x, 1, 480);
        check.due(1.0f / 480.0f, x.closedShare(0));
        closeFor(x, 6, 0);
        check.due(7.0f / 486.0f, x.closedShare(0));
        goTo(x, 30, 0);
        check.due(7.0f / 14400.0f, x.closedShare(0));

        says(28, "Throws `ArithmeticException` if no such minute went by");
        SkiPasses y = gates(0, 0);
        check.dueThrow(ARITHMETIC, () -> y.closedShare(0));
        y.setClosed(0, true);
        y.advance(0);
        check.dueThrow(ARITHMETIC, () -> y.closedShare(0));
        y.advance(1);
        check.due(1.0f, y.closedShare(0));
        y.undo();
        check.dueThrow(ARITHMETIC, () -> y.closedShare(0));

        says(28, "Throws `IndexOutOfBoundsException` if there is no such gate");
        dueOutside(INDEX, 1, gate -> x.closedShare(gate));
        dueOutside(INDEX, 11, gate -> x.closedShare(gate));
        check.dueThrow(INDEX, () -> new SkiPasses().closedShare(0));
    }

    /** No run of calls can make it false, so that only true can be due. */
    private static void isConsistent() {
        says(29, "Counts once more whether the prices of all cards are all refunds, shares and what is idle together, "
            + "the rides of all gates are those of all cards, and on no card two rides after one another are less "
            + "minutes apart than the way between their gates takes.", "Returns whether all of that is so.");
        check.due(true, new SkiPasses().isConsistent());
        SkiPasses x = afterClosedDay();
        check.due(true, x.isConsistent());
        x.advance(10);
        x.pass(0, 2);
        x.advance(10);
        x.pass(0, 0);
        x.pass(0, 1);
        check.due(true, x.isConsistent());
        x.refund(1);
        x.replace(0);
        check.due(true, x.isConsistent());
        x.pass(3, 0);
        x.sell(1);
        x.refund(4);
        check.due(true, x.isConsistent());
        x.undo();
        x.clear();
        check.due(true, x.isConsistent());
    }

    // ---- promises 30 to 33

    private static void append() {
        says(30, "Appends up to four characters to the input buffer: the bytes of an int from the most significant one "
            + "to the least significant one, where bytes that are 0 are skipped.",
            "Returns the number of characters in the buffer.");
        SkiPasses x = threeKinds();
        check.due(0, x.append(0));
        check.due(4, x.append('s' << 24 | '1' << 16 | ';' << 8 | 's'));
        check.due(5, x.append('2' << 24));
        check.due(7, x.append('*' << 16 | '3'));
        check.due(8, x.append(';' << 8));
        check.due(10, x.append('c' << 24 | '1'));
        check.due(10, x.append(0));
        check.due(10, x.system(8));
        check.due(3, x.read());
        dueEach(card -> x.card(card, 0), 1, 2, 2, 2);
        check.due(2, x.system(7));
        check.due(4, x.append(0x20202020));
        check.due(8, x.append(0x7e7e7e7e));
    }

    private static void appendRefused() {
        says(30, "Throws `IllegalArgumentException` if a byte that is not 0 is not from 32 to 126");
        SkiPasses x = new SkiPasses();
        int[] wrong = {1, 31, 127, 128, 255};
        for (int place = 0; place < 32; place += 8) {
            for (int sign : wrong) {
                int alone = sign << place;
                int among = 0x41414141 & ~(255 << place) | alone;
                check.dueThrow(ARGUMENT, () -> x.append(alone));
                check.dueThrow(ARGUMENT, () -> x.append(among));
            }
        }
        check.dueThrow(ARGUMENT, () -> x.append(-1));
        check.dueThrow(ARGUMENT, () -> x.append(Integer.MIN_VALUE));
        check.dueThrow(ARGUMENT, () -> x.append(Integer.MAX_VALUE));
        check.due(0, x.system(8));
        for (int place = 0; place < 32; place += 8) {
            check.due(place / 4 + 1, x.append(32 << place));
            check.due(place / 4 + 2, x.append(126 << place));
        }

        says(30, "Throws `IllegalStateException` if there would be more than 60 characters");
        for (int signs = 1; signs <= 4; signs++) {
            SkiPasses y = new SkiPasses();
            int packed = 0x20202020 >>> 32 - 8 * signs;
            while (y.system(8) + 4 <= 60 - signs) {
                y.append(0x20202020);
            }
            while (y.system(8) < 60 - signs) {
                y.append(0x20);
            }
            check.due(60, y.append(packed));
            check.dueThrow(STATE, () -> y.append(packed));
            check.dueThrow(STATE, () -> y.append(0x20000000));
            check.due(60, y.append(0));
            SkiPasses z = new SkiPasses();
            while (z.system(8) < 61 - signs) {
                z.append(0x20);
            }
            check.dueThrow(STATE, () -> z.append(packed));
            check.due(61 - signs, z.system(8));
        }
    }

    private static void readCarriesOut() {
        says(31, "Carries out the orders of the text in the input buffer, one after the other, all of them or none.",
            "Returns the number of orders.");
        SkiPasses x = threeKinds();
        check.due(1, read(x, "s0"));
        check.due(6, read(x, "s1;r1;b2;u2;c0;w9"));
        check.due(2, x.card(1, 4));
        check.due(0, x.card(2, 1));
        check.due(9, x.gate(0, 5));
        check.due(20, read(x, "w1;w1;w1;w1;w1;w1;w1;w1;w1;w1;w1;w1;w1;w1;w1;w1;w1;w1;w1;w1"));
        check.due(509, x.system(0));
        check.due("UnsupportedOperationException", read(x, "s0*9;b3;w5;o0;r2;b2"));
        check.due(5, x.refusedOrder());
        check.due(3, x.system(5));
        check.due(509, x.system(0));
        check.due(1, x.system(7));
        check.due(1, read(x, "u0"));

        says(31, "The buffer is empty afterwards in any case.");
        String[] texts = {"w0", "w0;w0;w0;w0;w0;w0;w0;w0;w0;w0;w0;w0;w0;w0;w0;w0;w0;w0;w0;w99", "", "w", "w0;b99"};
        for (String text : texts) {
            read(x, text);
            check.due(0, x.system(8));
            check.dueThrow(ARGUMENT, () -> x.read());
            check.due(0, x.errorPosition());
        }
        x.undo();
        check.due(0, x.system(8));
        check.due(4, x.append(0x20202020));
    }

    private static void readRefused() {
        says(31, "Throws `IllegalArgumentException` if the text is malformed",
            "the error position is then kept for errorPosition");
        SkiPasses x = threeKinds();
        Object[][] texts = {{"", 0}, {"s", 1}, {"s0;", 3}, {"s0*", 3}, {"s9;x", 3}, {"b00", 2}, {"w12345", 5}};
        for (Object[] row : texts) {
            check.due("IllegalArgumentException", read(x, (String) row[0]));
            check.due(row[1], x.errorPosition());
            check.due(0, x.system(5));
        }
        check.dueThrow(ELEMENT, () -> x.refusedOrder());

        says(31, "Throws `UnsupportedOperationException` if the method for an order would throw an exception",
            "the number of this order, counted from 0, is then kept for refusedOrder");
        SkiPasses y = threeKinds();
        sell(y, 0, 1, 2);
        y.replace(0);
        y.refund(1);
        Object[][] orders = {{"s3", 0}, {"s9*0", 0}, {"s0*9;s0*8", 1}, {"b4", 0}, {"b0", 0}, {"w0;b1", 1}, {"u4", 0},
            {"u0", 0}, {"b2;u1", 1}, {"r4", 0}, {"r0", 0}, {"w0;w0;r1", 2}, {"r2;r2", 1}, {"s0*9;s0*7;r2", 2},
            {"c3", 0}, {"c9999", 0}, {"c0;o3", 1}, {"w2881", 0}, {"w0;w9999", 1}};
        for (Object[] row : orders) {
            check.due("UnsupportedOperationException", read(y, (String) row[0]));
            check.due(row[1], y.refusedOrder());
        }
        dueEach(what -> y.system(what), 480, 0, 8, 3, 3, 4, 0, 0, 0, 8);
        dueEach(card -> y.card(card, 1), 2, 3, 0, 0);
        check.dueThrow(ELEMENT, () -> y.errorPosition());
        goTo(y, 30, 0);
        check.due("UnsupportedOperationException", read(y, "w0;w0;w1"));
        check.due(2, y.refusedOrder());
        check.due(2, read(y, "s0*9;s0*7"));
        check.due("UnsupportedOperationException", read(y, "s0*0;r2"));
        check.due(1, y.refusedOrder());
        check.due("UnsupportedOperationException", read(y, "s0"));
        check.due(0, y.refusedOrder());
        check.due("UnsupportedOperationException",
            read(y, "w0;w0;w0;w0;w0;w0;w0;w0;w0;w0;w0;w0;w0;w0;w0;w0;w0;w0;w0;w1"));
        check.due(19, y.refusedOrder());
    }

    private static void errorPosition() {
        says(32, "Throws `NoSuchElementException` if there was none");
        SkiPasses x = threeKinds();
        check.dueThrow(ELEMENT, () -> x.errorPosition());
        read(x, "w0");
        read(x, "w0;s9");
        check.dueThrow(ELEMENT, () -> x.errorPosition());

        says(32, "Returns the error position of the last text that was malformed, whatever was read after it.",
            "Returns the error position.");
        read(x, "w0;w");
        check.due(4, x.errorPosition());
        read(x, "w0");
        check.due(4, x.errorPosition());
        read(x, "w0;w0;w9999");
        check.due(4, x.errorPosition());
        x.undo();
        x.snapshot();
        x.restore();
        check.due(4, x.errorPosition());
        read(x, "");
        check.due(0, x.errorPosition());
        read(x, "w0;w0;w0;w0;w0;w0;w0;w0;w0;w0;w0;w0;w0;w0;w0;w0;w0;w0;w0;w0;");
        check.due(60, x.errorPosition());
        x.clear();
        check.due(60, x.errorPosition());
    }

    private static void refusedOrder() {
        says(33, "Throws `NoSuchElementException` if there was none");
        SkiPasses x = threeKinds();
        check.dueThrow(ELEMENT, () -> x.refusedOrder());
        read(x, "w0");
        read(x, "w0;w");
        check.dueThrow(ELEMENT, () -> x.refusedOrder());

        says(33, "Returns the number of the order for which the last text was refused, whatever was read after it.",
            "Returns the number of the order.");
        read(x, "w0;w0;s9");
        check.due(2, x.refusedOrder());
        read(x, "w0");
        check.due(2, x.refusedOrder());
        read(x, "w0;s9;");
        check.due(2, x.refusedOrder());
        x.undo();
        x.snapshot();
        x.restore();
        check.due(2, x.refusedOrder());
        read(x, "s9;s9");
        check.due(0, x.refusedOrder());
        read(x, "w0;w0;w0;w0;w0;w0;w0;w0;w0;w0;w0;w0;w0;w0;w0;w0;w0;w0;w0;s9");
        check.due(19, x.refusedOrder());
        x.clear();
        check.due(19, x.refusedOrder());
    }

    // ---- promises 34 to 36

    private interface Change {
        Object make(SkiPasses x);
    }

    private static final Change[] CHANGES = {x -> x.addGate(0, 0), x -> addProduct(x, 0, 1, 1), x -> x.sell(0),
        x -> x.pass(0, 1), x -> x.advance(1), x -> x.advance(2880), x -> x.setClosed(0, false),
        x -> x.setClosed(1, true), x -> x.block(0, true), x -> x.block(1, false), x -> x.replace(0),
        x -> x.replace(1), x -> x.refund(0), x -> x.refund(4), x -> read(x, "s1"),
        x -> read(x, "s0*9;r0;b5;b1;u1;c1;o0;w2880;r4")};

    private static final Change[] CHANGES_OF_NOTHING = {x -> x.advance(0), x -> x.setClosed(0, true),
        x -> x.setClosed(1, false), x -> x.block(0, false), x -> x.block(1, true), x -> read(x, "s0*0"),
        x -> read(x, "w0;c0;o1;u0;b1")};

    /** As rich, with three changes that can be undone, so that one more takes none of these away. */
    private static SkiPasses withThreeChanges() {
        SkiPasses x = restored(RefusedCalls.rich());
        x.advance(30);
        x.block(1, true);
        x.setClosed(0, true);
        return x;
    }

    private static void undo() {
        says(34, "Undoes the last change that can be undone.",
            "Returns the number of changes that can still be undone.");
        String before = Witness.of(withThreeChanges());
        for (int i = 0; i < CHANGES.length + CHANGES_OF_NOTHING.length; i++) {
            SkiPasses x = withThreeChanges();
            (i < CHANGES.length ? CHANGES[i] : CHANGES_OF_NOTHING[i - CHANGES.length]).make(x);
            check.due(4, x.system(9));
            check.due(3, x.undo());
            check.due(i + before, i + Witness.of(x));
        }

        says(34, "Throws `IllegalStateException` if there is none");
        SkiPasses x = new SkiPasses();
        check.dueThrow(STATE, () -> x.undo());
        x.advance(1);
        check.due(0, x.undo());
        check.dueThrow(STATE, () -> x.undo());
        check.due(480, x.system(0));
        for (int change = 0; change < 9; change++) {
            x.advance(1);
        }
        dueEach(undone -> x.undo(), 7, 6, 5, 4, 3, 2, 1, 0);
        check.dueThrow(STATE, () -> x.undo());
        check.due(481, x.system(0));
        x.advance(1);
        x.snapshot();
        x.restore();
        check.dueThrow(STATE, () -> x.undo());
        x.advance(1);
        x.clear();
        check.dueThrow(STATE, () -> x.undo());
    }

    private static void snapshot() {
        says(35, "Takes a snapshot of everything that changes can change.");
        SkiPasses unchanged = withThreeChanges();
        unchanged.snapshot();
        unchanged.restore();
        String before = Witness.of(unchanged);
        for (int i = 0; i < CHANGES.length; i++) {
            SkiPasses x = withThreeChanges();
            x.snapshot();
            check.due(3, x.system(9));
            CHANGES[i].make(x);
            x.restore();
            check.due(i + before, i + Witness.of(x));
        }

        says(35, "It replaces an earlier one.");
        SkiPasses x = gates(0, 0);
        x.snapshot();
        x.addGate(1, 50);
        x.advance(20);
        x.snapshot();
        x.addGate(2, 99);
        x.restore();
        check.due(2, x.system(3));
        check.due(500, x.system(0));
        x.clear();
        x.snapshot();
        x.addGate(0, 0);
        x.restore();
        check.due(0, x.system(3));

        says(35, "Returns the number of cards.");
        SkiPasses y = threeKinds();
        check.due(0, new SkiPasses().snapshot());
        check.due(0, y.snapshot());
        y.sell(0);
        y.replace(0);
        y.refund(1);
        check.due(2, y.snapshot());
        read(y, "s0*9;s0*9");
        check.due(20, y.snapshot());
        y.clear();
        check.due(0, y.snapshot());
    }

    private static void restore() {
        says(36, "Throws `IllegalStateException` if there is no snapshot");
        SkiPasses x = threeKinds();
        check.dueThrow(STATE, () -> x.restore());
        x.clear();
        check.dueThrow(STATE, () -> x.restore());
        check.due(0, x.snapshot());
        check.due(0, x.restore());

        says(36, "Restores all that from the snapshot, which stays available.", "Returns the number of cards.");
        SkiPasses y = RefusedCalls.rich();
        check.due(5, y.snapshot());
        String before = Witness.of(restored(RefusedCalls.rich()));
        for (Change change : CHANGES) {
            change.make(y);
            check.due(5, y.restore());
        }
        y.clear();
        write(y, "w5");
        check.due(5, y.restore());
        check.due(2, y.system(8));
        check.due(1, y.read());
        check.due(5, y.restore());
        check.due(0, y.system(8));
        check.dueThrow(STATE, () -> y.refusal(0));
        check.dueThrow(UNSUPPORTED, () -> y.pass(0, 0));
        check.due(before.replaceAll("refusal.*", ""), Witness.of(y).replaceAll("refusal.*", ""));
        SkiPasses full = new SkiPasses();
        addProduct(full, 0, 1, 1);
        read(full, "s0*9;s0*9;s0*2");
        full.snapshot();
        full.clear();
        check.due(20, full.restore());
        check.due(20, full.restore());

        says(36, "After that no changes can be undone.");
        SkiPasses z = RefusedCalls.rich();
        check.due(8, z.system(9));
        z.restore();
        check.due(0, z.system(9));
        check.dueThrow(STATE, () -> z.undo());
        z.advance(1);
        check.due(1, z.system(9));
        check.due(0, z.undo());
        check.dueThrow(STATE, () -> z.undo());
        z.restore();
        check.dueThrow(STATE, () -> z.undo());
    }

    private static SkiPasses restored(SkiPasses x) {
        x.snapshot();
        x.restore();
        return x;
    }
}
