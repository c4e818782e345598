/** The promises one by one: ordinary inputs, the edges that the document names, and wrong inputs. */
public final class PromiseTest extends Steps {
    private static final Check check = new Check("PromiseTest");

    public static void main(String[] args) {
        check.run(PromiseTest::newObject, PromiseTest::clear, PromiseTest::addGate, PromiseTest::addProduct,
            PromiseTest::gate, PromiseTest::product, PromiseTest::way, PromiseTest::advance, PromiseTest::system,
            PromiseTest::setClosed, PromiseTest::closedMinutes, PromiseTest::isClosedDay, PromiseTest::sell,
            PromiseTest::pass, PromiseTest::reasonOrder, PromiseTest::reasonHours, PromiseTest::reasonValidity,
            PromiseTest::reasonWay, PromiseTest::openGates, PromiseTest::refusal, PromiseTest::block,
            PromiseTest::replace, PromiseTest::replaceInARow, PromiseTest::card, PromiseTest::cardLeft,
            PromiseTest::ride, PromiseTest::refundable, PromiseTest::refund, PromiseTest::share, PromiseTest::partner,
            PromiseTest::account, PromiseTest::meanRides, PromiseTest::closedShare, PromiseTest::isConsistent,
            PromiseTest::append, PromiseTest::readForm, PromiseTest::readOrders, PromiseTest::readRefused,
            PromiseTest::errorPosition, PromiseTest::refusedOrder, PromiseTest::undo, PromiseTest::undoEachKind,
            PromiseTest::changesCounted, PromiseTest::snapshot, PromiseTest::restore, PromiseTest::fullHouse);
        check.end();
    }

    /** Gates 0 and 1 of partner 0 at 0 and 8, gate 2 of partner 1 at 8, gate 3 of partner 3 at 99. */
    private static SkiPasses withGates() {
        SkiPasses x = new SkiPasses();
        x.addGate(0, 0);
        x.addGate(0, 8);
        x.addGate(1, 8);
        x.addGate(3, 99);
        return x;
    }

    /** With products for all partners and hours: 0 for 2 days on end, 1 for 2 days with rides, 2 for 10 rides. */
    private static SkiPasses withProducts() {
        SkiPasses x = withGates();
        x.addProduct(0, 2, 0, 23, 15, 101);
        x.addProduct(1, 2, 0, 23, 15, 201);
        x.addProduct(2, 1, 0, 23, 15, 301);
        return x;
    }

    private static void newObject() {
        check.begin("1 a new object");
        SkiPasses x = new SkiPasses();
        int[] system = {480, 0, 8, 0, 0, 0, 0, 0, 0, 0};
        for (int what = 0; what < system.length; what++) {
            check.due(system[what], x.system(what));
        }
        for (int what = 0; what < 5; what++) {
            check.due(0, x.account(what));
        }
        for (int what = 0; what < 4; what++) {
            check.due(0, x.partner(3, what));
        }
        check.dueThrow(INDEX, () -> x.gate(0, 0));
        check.dueThrow(INDEX, () -> x.product(0, 0));
        check.dueThrow(INDEX, () -> x.card(0, 0));
        check.dueThrow(STATE, () -> x.refusal(0));
        check.dueThrow(STATE, () -> x.undo());
        check.dueThrow(STATE, () -> x.restore());
        check.dueThrow(ELEMENT, () -> x.errorPosition());
        check.dueThrow(ELEMENT, () -> x.refusedOrder());
        check.dueThrow(ARITHMETIC, () -> x.meanRides());
        check.due(true, x.isConsistent());
    }

    private static void clear() {
        check.begin("2 clear");
        SkiPasses x = withProducts();
        check.due("IllegalArgumentException", read(x, "s0;x"));
        check.due("UnsupportedOperationException", read(x, "s0;b7"));
        x.sell(0);
        x.sell(2);
        x.replace(1);
        x.snapshot();
        x.pass(0, 0);
        check.dueThrow(UNSUPPORTED, () -> x.pass(0, 0));
        x.setClosed(1, true);
        x.advance(700);
        write(x, "s0");
        check.due(3, x.clear());
        int[] system = {480, 0, 8, 0, 0, 0, 0, 0, 2, 0};
        for (int what = 0; what < system.length; what++) {
            check.due(system[what], x.system(what));
        }
        check.dueThrow(STATE, () -> x.refusal(0));
        check.dueThrow(STATE, () -> x.undo());
        check.dueThrow(INDEX, () -> x.card(0, 0));
        check.dueThrow(INDEX, () -> x.product(0, 0));
        check.dueThrow(INDEX, () -> x.gate(0, 0));
        check.due(3, x.errorPosition());
        check.due(1, x.refusedOrder());
        check.due(0, x.addGate(2, 2));
        check.due(1, x.addGate(2, 2));
        check.due(0, x.gate(1, 2));
        check.due(0, x.gate(1, 5));
        check.due("UnsupportedOperationException", read(x, ""));
        check.due(0, x.refusedOrder());
        check.due(3, x.restore());
        check.due(2, x.card(1, 4));
        check.due(0, x.clear() - 3);
        check.due(0, x.clear());
    }

    private static void addGate() {
        check.begin("3 addGate");
        SkiPasses x = new SkiPasses();
        for (int wrong : OUTSIDE) {
            check.dueThrow(ARGUMENT, () -> x.addGate(wrong, 0));
            check.dueThrow(ARGUMENT, () -> x.addGate(0, wrong));
        }
        check.dueThrow(ARGUMENT, () -> x.addGate(4, 0));
        check.dueThrow(ARGUMENT, () -> x.addGate(0, 100));
        check.due(0, x.system(3));
        check.due(0, x.system(9));
        for (int number = 0; number < 12; number++) {
            check.due(number, x.addGate(number % 4, number * 9));
            check.due(0, x.gate(number, 2));
        }
        check.due(99, x.gate(11, 1));
        check.due(3, x.gate(11, 0));
        check.dueThrow(STATE, () -> x.addGate(0, 0));
        check.dueThrow(ARGUMENT, () -> x.addGate(4, 0));
        check.dueThrow(ARGUMENT, () -> x.addGate(0, -1));
        check.due(12, x.system(3));
    }

    private static void addProduct() {
        check.begin("4 addProduct");
        SkiPasses x = new SkiPasses();
        int[] good = {1, 5, 9, 15, 7, 500};
        int[] least = {0, 1, 0, 9, 1, 1};
        int[] most = {2, 9, 15, 23, 15, 9999};
        for (int i = 0; i < good.length; i++) {
            refuseProduct(x, good, i, least[i] - 1);
            refuseProduct(x, good, i, most[i] + 1);
            for (int wrong : OUTSIDE) {
                refuseProduct(x, good, i, wrong);
            }
        }
        check.dueThrow(ARGUMENT, () -> x.addProduct(0, 1, 9, 8, 1, 1));
        check.dueThrow(ARGUMENT, () -> x.addProduct(0, 1, 0, 24, 1, 1));
        check.dueThrow(ARGUMENT, () -> x.addProduct(0, 1, 24, 24, 1, 1));
        check.dueThrow(ARGUMENT, () -> x.addProduct(0, 1, -1, -1, 1, 1));
        check.due(0, x.system(4));
        for (int i = 0; i < good.length; i++) {
            check.due(i, addWith(x, good, i, i % 2 == 0 ? least[i] : most[i]));
        }
        check.due(6, x.addProduct(0, 1, 0, 0, 1, 1));
        check.due(7, x.addProduct(2, 9, 23, 23, 15, 9999));
        check.dueThrow(STATE, () -> x.addProduct(0, 1, 0, 0, 1, 1));
        check.dueThrow(ARGUMENT, () -> x.addProduct(3, 1, 0, 0, 1, 1));
        check.due(8, x.system(4));
        check.due(8, x.system(9));
    }

    private static int addWith(SkiPasses x, int[] good, int place, int number) {
        int[] row = good.clone();
        row[place] = number;
        return x.addProduct(row[0], row[1], row[2], row[3], row[4], row[5]);
    }

    private static void refuseProduct(SkiPasses x, int[] good, int place, int number) {
        check.dueThrow(ARGUMENT, () -> addWith(x, good, place, number));
    }

    private static void gate() {
        check.begin("5 gate");
        SkiPasses x = withProducts();
        check.due(1, x.gate(2, 0));
        check.due(8, x.gate(2, 1));
        check.due(0, x.gate(2, 2));
        x.sell(0);
        x.sell(1);
        x.pass(0, 2);
        x.pass(1, 2);
        x.addGate(1, 8);
        x.pass(1, 4);
        x.replace(1);
        check.due(2, x.gate(2, 3));
        check.due(1, x.gate(4, 3));
        check.due(0, x.gate(0, 3));
        x.setClosed(2, true);
        check.due(1, x.gate(2, 2));
        check.due(0, x.gate(2, 4));
        x.advance(100);
        check.due(100, x.gate(2, 4));
        check.due(100, x.gate(2, 5));
        x.advance(1440);
        check.due(100, x.gate(2, 4));
        check.due(580, x.gate(2, 5));
        check.due(0, x.gate(0, 5));
        for (int wrong : OUTSIDE) {
            check.dueThrow(INDEX, () -> x.gate(wrong, 0));
            check.dueThrow(INDEX, () -> x.gate(wrong, 9));
            check.dueThrow(ARGUMENT, () -> x.gate(0, wrong));
        }
        check.dueThrow(INDEX, () -> x.gate(5, 0));
        check.dueThrow(INDEX, () -> x.gate(12, 6));
        check.dueThrow(ARGUMENT, () -> x.gate(4, 6));
    }

    private static void product() {
        check.begin("6 product");
        SkiPasses x = withGates();
        x.addProduct(1, 7, 8, 20, 9, 1234);
        x.addProduct(2, 7, 8, 20, 4, 10);
        int[] due = {1, 7, 8, 20, 9, 1234, 0b1011, 0, 0};
        for (int what = 0; what < due.length; what++) {
            check.due(due[what], x.product(0, what));
        }
        check.due(0, x.product(1, 6));
        x.addGate(2, 0);
        check.due(0b10000, x.product(1, 6));
        for (int i = 0; i < 4; i++) {
            x.sell(0);
        }
        x.sell(1);
        x.replace(0);
        x.refund(1);
        x.block(2, true);
        check.due(4, x.product(0, 7));
        check.due(4 * 1234, x.product(0, 8));
        check.due(1, x.product(1, 7));
        check.due(10, x.product(1, 8));
        for (int wrong : OUTSIDE) {
            check.dueThrow(INDEX, () -> x.product(wrong, 0));
            check.dueThrow(INDEX, () -> x.product(wrong, 9));
            check.dueThrow(ARGUMENT, () -> x.product(0, wrong));
        }
        check.dueThrow(INDEX, () -> x.product(2, 0));
        check.dueThrow(INDEX, () -> x.product(8, 0));
        check.dueThrow(ARGUMENT, () -> x.product(1, 9));
    }

    private static void way() {
        check.begin("7 way");
        SkiPasses x = withGates();
        check.due(8, x.way(0, 1));
        check.due(8, x.way(1, 0));
        check.due(10, x.way(1, 2));
        check.due(109, x.way(3, 0));
        check.due(109, x.way(0, 3));
        check.due(0, x.way(3, 3));
        for (int wrong : OUTSIDE) {
            check.dueThrow(INDEX, () -> x.way(wrong, 0));
            check.dueThrow(INDEX, () -> x.way(0, wrong));
        }
        check.dueThrow(INDEX, () -> x.way(4, 0));
        check.dueThrow(INDEX, () -> x.way(0, 4));
        check.dueThrow(INDEX, () -> x.way(0, 12));
    }

    private static void advance() {
        check.begin("8 advance");
        SkiPasses x = new SkiPasses();
        check.due(480, x.advance(0));
        check.due(481, x.advance(1));
        check.due(3361, x.advance(2880));
        for (int wrong : OUTSIDE) {
            check.dueThrow(ARGUMENT, () -> x.advance(wrong));
        }
        check.dueThrow(ARGUMENT, () -> x.advance(2881));
        check.due(3361, x.system(0));
        wait(x, 43200 - 3361 - 10);
        check.dueThrow(STATE, () -> x.advance(11));
        check.dueThrow(ARGUMENT, () -> x.advance(2881));
        check.due(43190, x.system(0));
        check.due(43200, x.advance(10));
        check.due(43200, x.advance(0));
        check.dueThrow(STATE, () -> x.advance(1));
        check.due(30, x.system(1));
        check.due(0, x.system(2));
    }

    private static void system() {
        check.begin("9 system");
        SkiPasses x = withProducts();
        x.sell(0);
        x.sell(0);
        x.replace(1);
        x.pass(0, 0);
        x.advance(30);
        x.pass(0, 1);
        x.pass(2, 3);
        x.setClosed(0, true);
        x.setClosed(3, true);
        x.advance(1440 + 89);
        write(x, "hello");
        int[] due = {2039, 1, 9, 4, 3, 3, 3, 9, 5, 8};
        for (int what = 0; what < due.length; what++) {
            check.due(due[what], x.system(what));
        }
        check.due(2040, x.advance(1));
        check.due(10, x.system(2));
        for (int wrong : OUTSIDE) {
            check.dueThrow(ARGUMENT, () -> x.system(wrong));
        }
        check.dueThrow(ARGUMENT, () -> x.system(10));
    }

    private static void setClosed() {
        check.begin("10 setClosed");
        SkiPasses x = withGates();
        check.due(false, x.setClosed(3, false));
        check.due(false, x.setClosed(3, true));
        check.due(true, x.setClosed(3, true));
        check.due(8, x.system(7));
        check.due(true, x.setClosed(3, false));
        check.due(false, x.setClosed(3, false));
        check.due(0, x.system(7));
        check.due(8, x.system(9));
        for (int wrong : OUTSIDE) {
            check.dueThrow(INDEX, () -> x.setClosed(wrong, true));
        }
        check.dueThrow(INDEX, () -> x.setClosed(4, false));
    }

    private static void closedMinutes() {
        check.begin("11 closedMinutes");
        SkiPasses x = withGates();
        x.setClosed(1, true);
        check.due(0, x.closedMinutes(1, 0));
        x.advance(1);
        check.due(1, x.closedMinutes(1, 0));
        x.setClosed(1, false);
        x.advance(478);
        check.due(1, x.closedMinutes(1, 0));
        x.setClosed(1, true);
        check.due(960, x.advance(1));
        check.due(2, x.closedMinutes(1, 0));
        x.advance(1);
        check.due(2, x.closedMinutes(1, 0));
        wait(x, 1440 + 480 - 961);
        check.due(0, x.closedMinutes(1, 1));
        x.advance(1);
        check.due(1, x.closedMinutes(1, 1));
        x.advance(2880);
        check.due(480, x.closedMinutes(1, 1));
        check.due(480, x.closedMinutes(1, 2));
        check.due(1, x.closedMinutes(1, 3));
        check.due(0, x.closedMinutes(1, 4));
        check.due(0, x.closedMinutes(1, 30));
        check.due(0, x.closedMinutes(0, 1));
        check.due(0, x.closedMinutes(2, 1));
        for (int wrong : OUTSIDE) {
            check.dueThrow(INDEX, () -> x.closedMinutes(wrong, 31));
            check.dueThrow(ARGUMENT, () -> x.closedMinutes(0, wrong));
        }
        check.dueThrow(INDEX, () -> x.closedMinutes(4, 0));
        check.dueThrow(ARGUMENT, () -> x.closedMinutes(3, 31));
        wait(x, 43200 - x.system(0));
        check.due(480, x.closedMinutes(1, 29));
        check.due(0, x.closedMinutes(1, 30));
        check.due(2 + 29 * 480, x.gate(1, 5));
    }

    private static void isClosedDay() {
        check.begin("12 isClosedDay");
        SkiPasses x = new SkiPasses();
        x.addProduct(0, 1, 0, 23, 1, 10);
        check.due(false, x.isClosedDay(0, 0));
        x.addGate(1, 0);
        x.setClosed(0, true);
        x.advance(480);
        check.due(false, x.isClosedDay(0, 0));
        x.addProduct(0, 1, 0, 23, 2, 10);
        check.due(true, x.isClosedDay(1, 0));
        x.clear();
        x.addProduct(0, 1, 0, 23, 1, 10);
        x.undo();
        check.dueThrow(INDEX, () -> x.isClosedDay(0, 0));
        x.addGate(0, 0);
        x.addGate(0, 0);
        x.addGate(1, 0);
        x.addProduct(0, 1, 0, 23, 1, 10);
        x.addProduct(0, 1, 0, 23, 3, 10);
        x.setClosed(0, true);
        x.advance(479);
        check.due(false, x.isClosedDay(0, 0));
        x.advance(1);
        check.due(true, x.isClosedDay(0, 0));
        check.due(false, x.isClosedDay(1, 0));
        check.due(false, x.isClosedDay(0, 1));
        x.addGate(0, 50);
        check.due(false, x.isClosedDay(0, 0));
        x.advance(1440);
        check.due(false, x.isClosedDay(0, 1));
        x.setClosed(1, true);
        x.advance(1440);
        check.due(true, x.isClosedDay(0, 2));
        check.due(true, x.isClosedDay(1, 2));
        check.due(false, x.isClosedDay(0, 3));
        check.due(false, x.isClosedDay(0, 30));
        for (int wrong : OUTSIDE) {
            check.dueThrow(INDEX, () -> x.isClosedDay(wrong, 31));
            check.dueThrow(ARGUMENT, () -> x.isClosedDay(0, wrong));
        }
        check.dueThrow(INDEX, () -> x.isClosedDay(2, 0));
        check.dueThrow(ARGUMENT, () -> x.isClosedDay(1, 31));
    }

    private static void sell() {
        check.begin("13 sell");
        SkiPasses x = withProducts();
        for (int wrong : OUTSIDE) {
            check.dueThrow(INDEX, () -> x.sell(wrong));
        }
        check.dueThrow(INDEX, () -> x.sell(3));
        for (int number = 0; number < 20; number++) {
            check.due(number, x.sell(number % 3));
        }
        check.due(1, x.card(19, 0));
        check.due(0, x.card(19, 1));
        check.due(0, x.card(19, 2));
        check.due(201, x.card(19, 6));
        check.dueThrow(STATE, () -> x.sell(0));
        check.dueThrow(INDEX, () -> x.sell(3));
        check.dueThrow(INDEX, () -> x.sell(8));
        check.due(20, x.system(5));
    }

    private static void pass() {
        check.begin("14 pass");
        SkiPasses x = withProducts();
        x.sell(0);
        x.sell(0);
        check.due(1, x.pass(0, 0));
        int changes = x.system(9);
        check.dueThrow(UNSUPPORTED, () -> x.pass(0, 0));
        check.due(changes, x.system(9));
        check.due(1, x.card(0, 2));
        x.advance(5);
        check.due(2, x.pass(0, 0));
        x.advance(8);
        check.due(3, x.pass(0, 1));
        check.due(1, x.pass(1, 1));
        check.due(493, x.ride(0, 2, false));
        check.due(1, x.ride(0, 2, true));
        check.due(4, x.system(6));
        for (int wrong : OUTSIDE) {
            check.dueThrow(INDEX, () -> x.pass(wrong, 0));
            check.dueThrow(INDEX, () -> x.pass(0, wrong));
        }
        check.dueThrow(INDEX, () -> x.pass(2, 0));
        check.dueThrow(INDEX, () -> x.pass(20, 0));
        check.dueThrow(INDEX, () -> x.pass(0, 4));
        check.due(42, x.refusal(3));
    }

    /** The reasons in their order: each one is covered by the ones before it. */
    private static void reasonOrder() {
        check.begin("15 reason, its order");
        SkiPasses x = withGates();
        x.addProduct(2, 1, 8, 8, 1, 100);
        x.sell(0);
        for (int ride = 0; ride < 10; ride++) {
            check.due(0, x.reason(0, 0));
            x.pass(0, 0);
            x.advance(ride < 9 ? 5 : 1);
        }
        check.due(33, x.reason(0, 0));
        check.due(33, x.reason(0, 1));
        check.due(31, x.reason(0, 2));
        x.advance(60);
        check.due(32, x.reason(0, 0));
        check.due(31, x.reason(0, 2));
        x.block(0, true);
        check.due(21, x.reason(0, 0));
        check.due(21, x.reason(0, 2));
        x.setClosed(0, true);
        check.due(11, x.reason(0, 0));
        check.due(21, x.reason(0, 1));
        x.replace(0);
        check.due(22, x.reason(0, 1));
        check.due(11, x.reason(0, 0));
        check.due(32, x.reason(1, 1));
        x.refund(1);
        check.due(23, x.reason(1, 1));
        check.due(23, x.reason(1, 2));
        check.due(11, x.reason(1, 0));
        check.dueThrow(STATE, () -> x.refusal(0));
        for (int wrong : OUTSIDE) {
            check.dueThrow(INDEX, () -> x.reason(wrong, 0));
            check.dueThrow(INDEX, () -> x.reason(0, wrong));
        }
        check.dueThrow(INDEX, () -> x.reason(2, 0));
        check.dueThrow(INDEX, () -> x.reason(0, 4));
    }

    private static void reasonHours() {
        check.begin("15 reason, hours");
        SkiPasses x = withGates();
        x.addProduct(0, 9, 9, 10, 15, 100);
        x.sell(0);
        x.advance(59);
        check.due(32, x.reason(0, 0));
        x.advance(1);
        check.due(0, x.reason(0, 0));
        x.advance(119);
        check.due(0, x.reason(0, 0));
        x.advance(1);
        check.due(32, x.reason(0, 0));
        x.advance(1440 - 120);
        check.due(0, x.reason(0, 0));
        x.addProduct(0, 9, 0, 23, 15, 100);
        x.sell(1);
        x.advance(899);
        check.due(23, x.system(2));
        check.due(0, x.reason(1, 0));
        x.advance(1);
        check.due(0, x.system(2));
        check.due(0, x.reason(1, 0));
    }

    private static void reasonValidity() {
        check.begin("15 reason, validity");
        SkiPasses x = withProducts();
        x.sell(0);
        x.sell(1);
        x.sell(0);
        x.advance(1440);
        x.pass(0, 0);
        x.pass(1, 0);
        x.advance(1440);
        check.due(0, x.reason(0, 0));
        x.pass(0, 0);
        wait(x, 959);
        check.due(0, x.reason(0, 0));
        x.advance(1);
        check.due(3, x.system(1));
        check.due(33, x.reason(0, 0));
        check.due(0, x.reason(1, 0));
        check.due(0, x.reason(2, 0));
        x.pass(1, 0);
        x.advance(100);
        check.due(0, x.reason(1, 0));
        x.advance(1439);
        check.due(33, x.reason(1, 0));
        x.replace(1);
        check.due(33, x.reason(3, 0));
        check.due(0, x.reason(2, 0));
        check.due(4, x.gate(0, 3));
    }

    private static void reasonWay() {
        check.begin("15 reason, ways");
        SkiPasses x = withProducts();
        x.addGate(0, 0);
        x.addGate(0, 3);
        x.sell(0);
        x.pass(0, 0);
        check.due(42, x.reason(0, 0));
        check.due(0, x.reason(0, 4));
        check.due(41, x.reason(0, 5));
        x.advance(3);
        check.due(0, x.reason(0, 5));
        x.advance(1);
        check.due(42, x.reason(0, 0));
        x.advance(1);
        check.due(0, x.reason(0, 0));
        x.advance(2);
        check.due(41, x.reason(0, 1));
        x.advance(1);
        check.due(0, x.reason(0, 1));
        x.replace(0);
        x.advance(9);
        check.due(41, x.reason(1, 2));
        x.advance(1);
        check.due(0, x.reason(1, 2));
        x.advance(90);
        check.due(41, x.reason(1, 3));
        x.advance(1);
        check.due(0, x.reason(1, 3));
        x.pass(1, 3);
        check.due(41, x.reason(1, 0));
    }

    private static void openGates() {
        check.begin("16 openGates");
        SkiPasses x = withProducts();
        x.addProduct(0, 1, 0, 23, 2, 10);
        x.sell(0);
        x.sell(3);
        check.due(0b1111, x.openGates(0));
        check.due(0b0100, x.openGates(1));
        x.pass(0, 1);
        check.due(0, x.openGates(0));
        x.advance(8);
        check.due(0b0011, x.openGates(0));
        x.setClosed(1, true);
        check.due(0b0001, x.openGates(0));
        x.advance(2);
        check.due(0b0101, x.openGates(0));
        x.block(0, true);
        check.due(0, x.openGates(0));
        check.dueThrow(STATE, () -> x.refusal(0));
        for (int wrong : OUTSIDE) {
            check.dueThrow(INDEX, () -> x.openGates(wrong));
        }
        check.dueThrow(INDEX, () -> x.openGates(2));
    }

    private static void dueChain(SkiPasses x, int... chain) {
        for (int index = 0; index < chain.length; index++) {
            check.due(chain[index], x.refusal(index));
        }
        check.dueThrow(ELEMENT, () -> x.refusal(chain.length));
        for (int wrong : OUTSIDE) {
            check.dueThrow(ELEMENT, () -> x.refusal(wrong));
        }
    }

    private static void refuse(SkiPasses x, int card, int gate) {
        check.dueThrow(UNSUPPORTED, () -> x.pass(card, gate));
    }

    private static void refusal() {
        check.begin("17 refusal");
        SkiPasses x = withGates();
        x.addProduct(1, 1, 8, 8, 3, 100);
        x.sell(0);
        check.dueThrow(STATE, () -> x.refusal(0));
        check.dueThrow(STATE, () -> x.refusal(-1));
        refuse(x, 0, 3);
        dueChain(x, 1, 2, 3, 31);
        x.setClosed(0, true);
        refuse(x, 0, 0);
        dueChain(x, 1, 11);
        x.setClosed(0, false);
        x.pass(0, 0);
        dueChain(x, 1, 11);
        refuse(x, 0, 0);
        dueChain(x, 1, 2, 4, 42);
        refuse(x, 0, 1);
        dueChain(x, 1, 2, 4, 41);
        x.advance(60);
        refuse(x, 0, 0);
        dueChain(x, 1, 2, 3, 32);
        x.advance(1380);
        refuse(x, 0, 0);
        dueChain(x, 1, 2, 3, 33);
        x.block(0, true);
        refuse(x, 0, 0);
        dueChain(x, 1, 2, 21);
        x.replace(0);
        refuse(x, 0, 0);
        dueChain(x, 1, 2, 22);
        x.snapshot();
        x.refund(1);
        refuse(x, 1, 0);
        dueChain(x, 1, 2, 23);
        x.undo();
        dueChain(x, 1, 2, 23);
        x.restore();
        dueChain(x, 1, 2, 23);
        x.clear();
        check.dueThrow(STATE, () -> x.refusal(0));
    }

    private static void block() {
        check.begin("18 block");
        SkiPasses x = withProducts();
        x.sell(0);
        x.sell(0);
        check.due(0, x.block(0, false));
        check.due(0, x.block(0, true));
        check.due(1, x.block(0, true));
        check.due(1, x.card(0, 1));
        check.due(1, x.block(0, false));
        check.due(0, x.card(0, 1));
        check.due(0, x.card(1, 1));
        check.due(8, x.system(9));
        x.block(0, true);
        check.due(2, x.replace(0));
        check.due(0, x.card(2, 1));
        x.refund(1);
        for (int card = 0; card < 2; card++) {
            int settled = card;
            check.dueThrow(STATE, () -> x.block(settled, true));
            check.dueThrow(STATE, () -> x.block(settled, false));
        }
        check.due(2, x.card(0, 1));
        check.due(3, x.card(1, 1));
        for (int wrong : OUTSIDE) {
            check.dueThrow(INDEX, () -> x.block(wrong, true));
        }
        check.dueThrow(INDEX, () -> x.block(3, true));
    }

    private static void replace() {
        check.begin("19 replace");
        SkiPasses x = withProducts();
        x.sell(1);
        x.sell(1);
        x.pass(0, 0);
        x.advance(10);
        x.pass(0, 0);
        x.block(0, true);
        check.due(2, x.replace(0));
        int[] old = {1, 2, 0, 0, 2, 2, 0, 0, 2};
        int[] fresh = {1, 0, 2, 1, -1, 2, 201, 0, 1};
        for (int what = 0; what < old.length; what++) {
            check.due(old[what], x.card(0, what));
            check.due(fresh[what], x.card(2, what));
        }
        check.due(490, x.ride(2, 1, false));
        check.due(2, x.system(6));
        check.due(42, x.reason(2, 0));
        check.due(3, x.replace(2));
        check.due(2, x.card(0, 4));
        check.due(3, x.card(0, 5));
        check.due(3, x.card(2, 5));
        check.dueThrow(STATE, () -> x.replace(0));
        x.refund(1);
        check.dueThrow(STATE, () -> x.replace(1));
        for (int card = 4; card < 20; card++) {
            x.sell(0);
        }
        check.dueThrow(STATE, () -> x.replace(3));
        check.dueThrow(INDEX, () -> x.replace(20));
        for (int wrong : OUTSIDE) {
            check.dueThrow(INDEX, () -> x.replace(wrong));
        }
        check.due(20, x.system(5));
        check.due(0, x.card(3, 1));
        x.undo();
        check.due(19, x.replace(3));
        check.due(19, x.card(0, 5));
        x.undo();
        check.due(1, read(x, "r3"));
        x.undo();
        check.due("UnsupportedOperationException", read(x, "r3;r19"));
    }

    /** Every card but the last one is replaced by the next one. */
    private static void replaceInARow() {
        check.begin("20 card, the longest row of replacements");
        SkiPasses x = withProducts();
        x.sell(2);
        x.pass(0, 0);
        for (int card = 0; card < 19; card++) {
            check.due(card + 1, x.replace(card));
        }
        for (int card = 0; card < 20; card++) {
            check.due(19, x.card(card, 5));
            check.due(2, x.card(card, 0));
            check.due(card == 19 ? -1 : card + 1, x.card(card, 4));
            check.due(card == 19 ? 1 : 0, x.card(card, 2));
        }
        check.due(1, x.product(2, 7));
        check.due(301, x.account(0));
        check.dueThrow(STATE, () -> x.replace(19));
    }

    private static void card() {
        check.begin("20 card");
        SkiPasses x = withProducts();
        x.sell(1);
        int[] due = {1, 0, 0, 0, -1, 0, 201, 0, 2};
        for (int what = 0; what < due.length; what++) {
            check.due(due[what], x.card(0, what));
        }
        x.pass(0, 0);
        x.advance(960);
        x.pass(0, 0);
        x.advance(5);
        x.pass(0, 0);
        check.due(3, x.card(0, 2));
        check.due(2, x.card(0, 3));
        check.due(0, x.card(0, 8));
        for (int wrong : OUTSIDE) {
            check.dueThrow(INDEX, () -> x.card(wrong, 0));
            check.dueThrow(INDEX, () -> x.card(wrong, 9));
            check.dueThrow(ARGUMENT, () -> x.card(0, wrong));
        }
        check.dueThrow(INDEX, () -> x.card(1, 0));
        check.dueThrow(INDEX, () -> x.card(20, 0));
        check.dueThrow(ARGUMENT, () -> x.card(0, 9));
    }

    private static void cardLeft() {
        check.begin("20 card, what is left");
        SkiPasses x = withGates();
        x.addProduct(0, 3, 0, 23, 15, 100);
        x.addProduct(2, 3, 0, 23, 15, 100);
        x.sell(0);
        x.sell(1);
        x.advance(1440);
        check.due(3, x.card(0, 8));
        check.due(30, x.card(1, 8));
        x.pass(0, 0);
        x.pass(1, 0);
        check.due(3, x.card(0, 8));
        check.due(29, x.card(1, 8));
        x.advance(960);
        check.due(2, x.card(0, 8));
        x.advance(1440);
        check.due(1, x.card(0, 8));
        x.block(0, true);
        check.due(1, x.card(0, 8));
        x.advance(1440);
        check.due(0, x.card(0, 8));
        x.advance(1440);
        check.due(0, x.card(0, 8));
        x.replace(0);
        x.replace(1);
        check.due(3, x.card(0, 8));
        check.due(30, x.card(1, 8));
        check.due(0, x.card(2, 8));
        check.due(29, x.card(3, 8));
        x.refund(3);
        check.due(29, x.card(3, 8));
    }

    private static void ride() {
        check.begin("21 ride");
        SkiPasses x = withProducts();
        x.sell(0);
        check.dueThrow(ELEMENT, () -> x.ride(0, 0, true));
        x.pass(0, 1);
        x.advance(20);
        x.pass(0, 2);
        check.due(1, x.ride(0, 0, true));
        check.due(480, x.ride(0, 0, false));
        check.due(2, x.ride(0, 1, true));
        check.due(500, x.ride(0, 1, false));
        for (int wrong : OUTSIDE) {
            check.dueThrow(ELEMENT, () -> x.ride(0, wrong, true));
            check.dueThrow(INDEX, () -> x.ride(wrong, 0, true));
            check.dueThrow(INDEX, () -> x.ride(wrong, -1, false));
        }
        check.dueThrow(ELEMENT, () -> x.ride(0, 2, false));
        check.dueThrow(INDEX, () -> x.ride(1, 0, false));
        x.replace(0);
        check.dueThrow(ELEMENT, () -> x.ride(0, 0, true));
        check.due(480, x.ride(1, 0, false));
    }

    /** A day is closed for all products when half of the four gates are closed. */
    private static void closeHalf(SkiPasses x, boolean on) {
        x.setClosed(0, on);
        x.setClosed(3, on);
    }

    private static void refundable() {
        check.begin("22 refundable");
        SkiPasses x = withProducts();
        for (int product = 0; product < 3; product++) {
            x.sell(product);
            x.pass(product, 1);
        }
        x.sell(0);
        closeHalf(x, true);
        x.advance(479);
        check.due(0, x.refundable(0));
        x.advance(1);
        check.due(50, x.refundable(0));
        check.due(100, x.refundable(1));
        check.due(0, x.refundable(2));
        check.due(0, x.refundable(3));
        x.advance(960);
        check.due(1, x.pass(3, 1));
        check.due(2, x.pass(1, 1));
        check.due(100, x.refundable(1));
        x.advance(480);
        check.due(50, x.refundable(0));
        check.due(200, x.refundable(1));
        check.due(50, x.refundable(3));
        x.block(0, true);
        check.due(50, x.refundable(0));
        x.replace(0);
        check.due(0, x.refundable(0));
        check.due(50, x.refundable(4));
        x.refund(4);
        check.due(0, x.refundable(4));
        for (int wrong : OUTSIDE) {
            check.dueThrow(INDEX, () -> x.refundable(wrong));
        }
        check.dueThrow(INDEX, () -> x.refundable(5));
    }

    private static void refund() {
        check.begin("23 refund");
        SkiPasses x = withProducts();
        x.sell(1);
        x.sell(2);
        x.sell(0);
        x.pass(0, 1);
        x.pass(1, 1);
        closeHalf(x, true);
        x.advance(480);
        x.block(0, true);
        check.due(100, x.refund(0));
        check.due(3, x.card(0, 1));
        check.due(100, x.card(0, 7));
        check.due(201, x.card(0, 6));
        check.due(0, x.refund(1));
        check.due(3, x.card(1, 1));
        check.due(0, x.card(1, 7));
        check.dueThrow(STATE, () -> x.refund(0));
        x.replace(2);
        check.dueThrow(STATE, () -> x.refund(2));
        check.due(0, x.refund(3));
        for (int wrong : OUTSIDE) {
            check.dueThrow(INDEX, () -> x.refund(wrong));
        }
        check.dueThrow(INDEX, () -> x.refund(4));
    }

    private static void dueShares(SkiPasses x, int card, int... shares) {
        for (int partner = 0; partner < shares.length; partner++) {
            check.due(shares[partner], x.share(card, partner));
        }
    }

    private static void share() {
        check.begin("24 share");
        SkiPasses x = withProducts();
        x.sell(1);
        dueShares(x, 0, 0, 0, 0, 0);
        rides(x, 0, 2);
        dueShares(x, 0, 0, 201, 0, 0);
        rides(x, 0, 3);
        dueShares(x, 0, 0, 101, 0, 100);
        rides(x, 0, 3);
        dueShares(x, 0, 0, 67, 0, 134);
        rides(x, 0, 0, 1);
        dueShares(x, 0, 81, 40, 0, 80);
        rides(x, 0, 0);
        dueShares(x, 0, 101, 33, 0, 67);
        x.clear();
        SkiPasses y = withProducts();
        y.sell(1);
        closeHalf(y, true);
        y.advance(109);
        y.pass(0, 2);
        y.advance(109);
        y.pass(0, 1);
        y.advance(109);
        y.pass(0, 2);
        y.advance(200);
        check.due(100, y.refund(0));
        dueShares(y, 0, 33, 68, 0, 0);
        y.sell(2);
        y.pass(1, 1);
        y.replace(1);
        dueShares(y, 1, 0, 0, 0, 0);
        dueShares(y, 2, 301, 0, 0, 0);
        for (int wrong : OUTSIDE) {
            check.dueThrow(INDEX, () -> y.share(wrong, 0));
            check.dueThrow(INDEX, () -> y.share(0, wrong));
        }
        check.dueThrow(INDEX, () -> y.share(3, 0));
        check.dueThrow(INDEX, () -> y.share(0, 4));
    }

    private static void partner() {
        check.begin("25 partner");
        SkiPasses x = withProducts();
        x.sell(0);
        x.sell(1);
        x.sell(2);
        rides(x, 0, 0, 2);
        rides(x, 1, 1);
        rides(x, 1, 1);
        x.replace(0);
        check.due(51 + 201, x.partner(0, 0));
        check.due(50, x.partner(1, 0));
        check.due(0, x.partner(2, 0));
        check.due(3, x.partner(0, 1));
        check.due(1, x.partner(1, 1));
        check.due(0, x.partner(3, 1));
        check.due(2, x.partner(0, 2));
        check.due(1, x.partner(1, 2));
        check.due(0, x.partner(2, 2));
        check.due(2, x.partner(0, 3));
        check.due(1, x.partner(1, 3));
        check.due(0, x.partner(3, 3));
        for (int wrong : OUTSIDE) {
            check.dueThrow(INDEX, () -> x.partner(wrong, 0));
            check.dueThrow(INDEX, () -> x.partner(wrong, 4));
            check.dueThrow(ARGUMENT, () -> x.partner(0, wrong));
        }
        check.dueThrow(INDEX, () -> x.partner(4, 4));
        check.dueThrow(ARGUMENT, () -> x.partner(3, 4));
    }

    private static void dueAccounts(SkiPasses x, int... accounts) {
        for (int what = 0; what < accounts.length; what++) {
            check.due(accounts[what], x.account(what));
        }
        check.due(true, x.isConsistent());
    }

    private static void account() {
        check.begin("26 account");
        SkiPasses x = withProducts();
        x.sell(0);
        x.sell(1);
        x.sell(2);
        x.sell(1);
        dueAccounts(x, 804, 0, 0, 804, 0);
        closeHalf(x, true);
        x.pass(0, 1);
        x.pass(1, 1);
        x.pass(2, 1);
        dueAccounts(x, 804, 0, 603, 201, 0);
        x.advance(480);
        dueAccounts(x, 804, 0, 603, 201, 150);
        x.block(0, true);
        dueAccounts(x, 804, 0, 603, 201, 150);
        x.refund(0);
        dueAccounts(x, 804, 50, 553, 201, 100);
        x.replace(1);
        dueAccounts(x, 804, 50, 553, 201, 100);
        x.refund(3);
        dueAccounts(x, 804, 50, 553, 201, 100);
        for (int wrong : OUTSIDE) {
            check.dueThrow(ARGUMENT, () -> x.account(wrong));
        }
        check.dueThrow(ARGUMENT, () -> x.account(5));
    }

    private static void meanRides() {
        check.begin("27 meanRides");
        SkiPasses x = withProducts();
        check.dueThrow(ARITHMETIC, () -> x.meanRides());
        x.sell(0);
        check.due(0.0, x.meanRides());
        rides(x, 0, 0, 0);
        x.sell(0);
        x.sell(0);
        check.due(2.0 / 3.0, x.meanRides());
        x.replace(0);
        check.due(2.0 / 3.0, x.meanRides());
        x.refund(3);
        check.due(2.0 / 3.0, x.meanRides());
        x.clear();
        check.dueThrow(ARITHMETIC, () -> x.meanRides());
    }

    private static void closedShare() {
        check.begin("28 closedShare");
        SkiPasses x = withGates();
        for (int wrong : OUTSIDE) {
            check.dueThrow(INDEX, () -> x.closedShare(wrong));
        }
        check.dueThrow(INDEX, () -> x.closedShare(4));
        check.dueThrow(ARITHMETIC, () -> x.closedShare(0));
        x.advance(0);
        check.dueThrow(ARITHMETIC, () -> x.closedShare(0));
        x.setClosed(0, true);
        x.advance(1);
        check.due(1.0f, x.closedShare(0));
        check.due(0.0f, x.closedShare(1));
        x.setClosed(0, false);
        x.advance(2);
        check.due(1.0f / 3.0f, x.closedShare(0));
        x.advance(1440);
        check.due(1.0f / 483.0f, x.closedShare(0));
        x.addGate(0, 0);
        x.setClosed(4, true);
        x.advance(1437);
        check.due(477.0f / 960.0f, x.closedShare(4));
        x.advance(480);
        check.due(957.0f / 1440.0f, x.closedShare(4));
        x.advance(900);
        check.due(957.0f / 1440.0f, x.closedShare(4));
        x.clear();
        x.addGate(0, 0);
        check.dueThrow(ARITHMETIC, () -> x.closedShare(0));
    }

    private static void isConsistent() {
        check.begin("29 isConsistent");
        SkiPasses x = withProducts();
        check.due(true, x.isConsistent());
        x.sell(0);
        x.sell(1);
        rides(x, 0, 0, 2, 3);
        rides(x, 1, 1, 1, 2);
        check.due(true, x.isConsistent());
        x.replace(0);
        check.due(true, x.isConsistent());
        rides(x, 2, 0);
        x.refund(2);
        check.due(true, x.isConsistent());
        x.undo();
        x.undo();
        check.due(true, x.isConsistent());
    }

    private static void append() {
        check.begin("30 append");
        SkiPasses x = new SkiPasses();
        check.due(0, x.append(0));
        check.due(1, x.append('a'));
        check.due(2, x.append('b' << 24));
        check.due(4, x.append('c' << 16 | 126));
        check.due(8, x.append(0x20207e7e));
        check.dueThrow(ARGUMENT, () -> x.append(31));
        check.dueThrow(ARGUMENT, () -> x.append(127));
        check.dueThrow(ARGUMENT, () -> x.append(0x80414141));
        check.dueThrow(ARGUMENT, () -> x.append(0x41FF4141));
        check.dueThrow(ARGUMENT, () -> x.append(-1));
        check.dueThrow(ARGUMENT, () -> x.append(0x4141411f));
        check.due(8, x.system(8));
        check.due(0, x.system(9));
        for (int i = 0; i < 12; i++) {
            x.append(0x41414141);
        }
        check.due(58, x.append(0x41004100));
        check.dueThrow(STATE, () -> x.append(0x41004141));
        check.dueThrow(ARGUMENT, () -> x.append(0x1f414141));
        check.due(58, x.system(8));
        check.due(60, x.append(0x00414100));
        check.due(60, x.append(0));
        check.dueThrow(STATE, () -> x.append(0x41));
        check.due("IllegalArgumentException", read(x, ""));
        check.due(0, x.system(8));
        SkiPasses y = withProducts();
        y.append('s' << 24 | '2' << 8);
        y.append(';' << 16 | 's');
        y.append('0' << 24 | '*' << 16 | '3');
        check.due(2, y.read());
        check.due(2, y.card(0, 0));
        check.due(0, y.card(3, 0));
    }

    /** A malformed text, and the position at which no text can go on. */
    private static void malformed(String text, int position) {
        SkiPasses x = withProducts();
        x.sell(0);
        int changes = x.system(9);
        check.due("IllegalArgumentException", read(x, text));
        check.due(position, x.errorPosition());
        check.due(0, x.system(8));
        check.due(changes, x.system(9));
        check.due(1, x.system(5));
        check.dueThrow(ELEMENT, () -> x.refusedOrder());
    }

    private static void readForm() {
        check.begin("31 read, the form");
        malformed("", 0);
        malformed(" ", 0);
        malformed("S0", 0);
        malformed("x", 0);
        malformed(";", 0);
        malformed("*", 0);
        malformed("0", 0);
        for (String letter : new String[] {"s", "b", "u", "r", "c", "o", "w"}) {
            malformed(letter, 1);
            malformed(letter + ";", 1);
            malformed(letter + "x", 1);
            malformed(letter + "/", 1);
            malformed(letter + ":", 1);
            malformed(letter + "*", 1);
            malformed(letter + "00", 2);
            malformed(letter + "0;", 3);
            malformed(letter + "0;;", 3);
            malformed(letter + "0 ", 2);
        }
        malformed("s12", 2);
        malformed("s3*", 3);
        malformed("s3*;", 3);
        malformed("s3**", 3);
        malformed("s3*12", 4);
        malformed("s3*1*1", 4);
        malformed("b12345", 5);
        malformed("w99999", 5);
        malformed("w1*2", 2);
        malformed("w1234*", 5);
        malformed("w01", 2);
        malformed("s0;b1;u", 7);
        malformed("s0;b1;u1;q", 9);
        malformed("b99;b9999;u12345", 15);
        malformed("s0;s0;s0;s0;s0;s0;s0;s0;s0;s0;s0;s0;s0;s0;s0;s0;s0;s0;s0;s0;", 60);
        malformed("s0*9;s0*9;s0*9;s0*9;s0*9;s0*9;s0*9;s0*9;s0*9;s0*9;s0*9;s0*9;", 60);
    }

    private static void readOrders() {
        check.begin("31 read, the orders");
        SkiPasses x = withProducts();
        check.due(1, read(x, "s1"));
        check.due(1, x.card(0, 0));
        check.due(1, read(x, "s2*4"));
        check.due(5, x.system(5));
        check.due(1, read(x, "s2*0"));
        check.due(5, x.system(5));
        check.due(3, read(x, "b0;b1;u1"));
        check.due(1, x.card(0, 1));
        check.due(0, x.card(1, 1));
        check.due(3, read(x, "b0;u1;u1"));
        check.due(2, read(x, "r0;r5"));
        check.due(6, x.card(0, 5));
        check.due(3, read(x, "c0;c3;c3"));
        check.due(9, x.system(7));
        check.due(3, read(x, "w0;w10;o3"));
        check.due(1, x.system(7));
        check.due(490, x.system(0));
        check.due(10, x.gate(3, 5));
        check.due(1, read(x, "w2880"));
        check.due(490 + 2880, x.system(0));
        check.due(0, x.system(8));
        check.due(8, x.system(9));
        SkiPasses y = withProducts();
        check.due(20, read(y, "s0;s1;s2;s0;s1;s2;s0;s1;s2;s0;s1;s2;s0;s1;s2;s0;s1;s2;s0;s1"));
        check.due(20, y.system(5));
        check.due(1, y.card(19, 0));
        check.due(1, read(y, "s0*0"));
        SkiPasses z = withProducts();
        check.due(3, read(z, "s0*9;s1*9;s2*2"));
        check.due(20, z.system(5));
        check.due(2, z.card(19, 0));
    }

    /** A text whose order with this number is refused; nothing of it is left. */
    private static void refused(String text, int order) {
        SkiPasses x = withProducts();
        x.sell(0);
        x.sell(0);
        x.sell(0);
        x.refund(1);
        x.replace(2);
        x.advance(30);
        int changes = x.system(9);
        check.due("UnsupportedOperationException", read(x, text));
        check.due(order, x.refusedOrder());
        int[] due = {510, 0, 8, 4, 3, 4, 0, 0, 0, changes};
        for (int what = 0; what < due.length; what++) {
            check.due(due[what], x.system(what));
        }
        int[] states = {0, 3, 2, 0};
        for (int card = 0; card < states.length; card++) {
            check.due(states[card], x.card(card, 1));
        }
        check.due(0, x.gate(0, 5));
        check.dueThrow(ELEMENT, () -> x.errorPosition());
        check.due(changes - 1, x.undo());
        check.due(480, x.system(0));
    }

    private static void readRefused() {
        check.begin("31 read, refused orders");
        refused("s3", 0);
        refused("s3*0", 0);
        refused("s0;s9*0", 1);
        refused("s0*9;s0*8", 1);
        refused("s0*8;s0*8;s0;r0", 2);
        refused("s0*9;s0*7;r0", 2);
        refused("b0;b4", 1);
        refused("b9999", 0);
        refused("b0;b1", 1);
        refused("b0;b2", 1);
        refused("b0;u1", 1);
        refused("c0;w100;u2", 2);
        refused("r0;r0", 1);
        refused("r1", 0);
        refused("r4", 0);
        refused("c0;c3;c4", 2);
        refused("c0;o4", 1);
        refused("c0;w2881", 1);
        refused("w9999", 0);
        SkiPasses x = withProducts();
        wait(x, 43200 - 480 - 20);
        check.due("UnsupportedOperationException", read(x, "w10;w11"));
        check.due(1, x.refusedOrder());
        check.due(43180, x.system(0));
        check.due(2, read(x, "w10;w10"));
        check.due("UnsupportedOperationException", read(x, "w1"));
        check.due(1, read(x, "w0"));
    }

    private static void errorPosition() {
        check.begin("32 errorPosition");
        SkiPasses x = withProducts();
        check.dueThrow(ELEMENT, () -> x.errorPosition());
        read(x, "s0");
        check.dueThrow(ELEMENT, () -> x.errorPosition());
        read(x, "s7");
        check.dueThrow(ELEMENT, () -> x.errorPosition());
        read(x, "s0;");
        check.due(3, x.errorPosition());
        read(x, "s0");
        check.due(3, x.errorPosition());
        read(x, "s7");
        check.due(3, x.errorPosition());
        x.undo();
        check.due(3, x.errorPosition());
        x.snapshot();
        read(x, "");
        x.restore();
        check.due(0, x.errorPosition());
        x.clear();
        check.due(0, x.errorPosition());
    }

    private static void refusedOrder() {
        check.begin("33 refusedOrder");
        SkiPasses x = withProducts();
        check.dueThrow(ELEMENT, () -> x.refusedOrder());
        read(x, "s0");
        read(x, "s");
        check.dueThrow(ELEMENT, () -> x.refusedOrder());
        read(x, "s0;s0;s7");
        check.due(2, x.refusedOrder());
        read(x, "s0");
        read(x, "s");
        check.due(2, x.refusedOrder());
        x.undo();
        check.due(2, x.refusedOrder());
        x.snapshot();
        read(x, "s7");
        x.restore();
        check.due(0, x.refusedOrder());
        x.clear();
        check.due(0, x.refusedOrder());
    }

    private static void undo() {
        check.begin("34 undo");
        SkiPasses x = new SkiPasses();
        check.dueThrow(STATE, () -> x.undo());
        for (int minutes = 1; minutes <= 20; minutes++) {
            x.advance(minutes);
            check.due(Math.min(minutes, 8), x.system(9));
        }
        int clock = 480 + 210;
        for (int left = 7; left >= 0; left--) {
            check.due(left, x.undo());
            clock -= 13 + left;
            check.due(clock, x.system(0));
        }
        check.dueThrow(STATE, () -> x.undo());
        check.due(clock, x.system(0));
        x.advance(100);
        check.due(1, x.system(9));
        x.advance(100);
        check.due(1, x.undo());
        x.advance(7);
        check.due(2, x.system(9));
        check.due(1, x.undo());
        check.due(0, x.undo());
        check.due(clock, x.system(0));
        x.advance(0);
        check.due(0, x.undo());
    }

    private static void undoEachKind() {
        check.begin("34 undo, each kind of change");
        SkiPasses x = withProducts();
        x.addGate(1, 1);
        check.due(7, x.undo());
        check.due(4, x.system(3));
        check.dueThrow(INDEX, () -> x.gate(4, 0));
        check.due(4, x.addGate(2, 2));
        check.due(2, x.gate(4, 0));
        x.undo();
        x.addProduct(0, 1, 0, 0, 1, 1);
        x.undo();
        check.dueThrow(INDEX, () -> x.product(3, 0));
        x.sell(0);
        x.undo();
        check.dueThrow(INDEX, () -> x.card(0, 0));
        check.due(0, x.sell(1));
        x.pass(0, 0);
        x.undo();
        check.due(0, x.card(0, 2));
        check.due(0, x.card(0, 3));
        check.due(0, x.reason(0, 3));
        check.due(1, x.pass(0, 1));
        x.setClosed(0, true);
        x.setClosed(1, true);
        x.setClosed(3, true);
        x.undo();
        check.due(3, x.system(7));
        x.advance(2000);
        x.undo();
        check.due(480, x.system(0));
        check.due(0, x.gate(0, 5));
        x.advance(480);
        check.due(480, x.gate(0, 5));
        x.block(0, true);
        x.undo();
        check.due(0, x.card(0, 1));
        x.replace(0);
        x.undo();
        check.due(1, x.system(5));
        check.due(-1, x.card(0, 4));
        check.due(1, x.card(0, 2));
        check.due(201, x.card(0, 6));
        check.due(100, x.refund(0));
        x.undo();
        check.due(0, x.card(0, 1));
        check.due(0, x.card(0, 7));
        check.due(100, x.refundable(0));
        check.due(5, read(x, "s0*9;b0;r0;o0;w99"));
        int changes = x.system(9);
        check.due(changes - 1, x.undo());
        check.due(1, x.system(5));
        check.due(0, x.card(0, 1));
        check.due(3, x.system(7));
        check.due(960, x.system(0));
        check.due(0, x.system(8));
        write(x, "s1");
        x.undo();
        check.due(2, x.system(8));
    }

    /** Which calls are changes: a restore forgets all changes, so that each one can be counted alone. */
    private static void changesCounted() {
        check.begin("34 undo, what is a change");
        SkiPasses x = withProducts();
        x.sell(0);
        x.snapshot();
        x.restore();
        dueChanges(x, 1, () -> x.addGate(0, 0));
        dueChanges(x, 1, () -> x.addProduct(0, 1, 0, 0, 1, 1));
        dueChanges(x, 1, () -> x.sell(0));
        dueChanges(x, 1, () -> x.pass(0, 0));
        dueChanges(x, 1, () -> x.advance(0));
        dueChanges(x, 1, () -> x.setClosed(0, false));
        dueChanges(x, 1, () -> x.block(0, false));
        dueChanges(x, 1, () -> x.replace(0));
        dueChanges(x, 1, () -> x.refund(0));
        dueChanges(x, 1, () -> read(x, "s0*0"));
        dueChanges(x, 1, () -> read(x, "s0;w5;c0"));
        dueChanges(x, 0, () -> read(x, "s0;w5;c7"));
        dueChanges(x, 0, () -> read(x, "s0;"));
        dueChanges(x, 0, () -> x.append('s'));
        dueChanges(x, 0, () -> x.snapshot());
        dueChanges(x, 0, () -> x.reason(0, 0));
        dueChanges(x, 0, () -> x.clear());
    }

    private static void dueChanges(SkiPasses x, int changes, Check.Call call) {
        x.restore();
        Object cards = x.system(5);
        call.answer();
        check.due(changes, x.system(9));
        if (changes == 1) {
            check.due(0, x.undo());
            check.due(cards, x.system(5));
        }
    }

    private static void snapshot() {
        check.begin("35 snapshot");
        SkiPasses x = withProducts();
        check.due(0, x.snapshot());
        x.sell(0);
        x.replace(0);
        int changes = x.system(9);
        check.due(2, x.snapshot());
        check.due(changes, x.system(9));
        x.undo();
        x.undo();
        check.due(0, x.system(5));
        check.due(2, x.restore());
        check.due(2, x.card(0, 1));
        check.due(0, x.card(1, 1));
    }

    private static void restore() {
        check.begin("36 restore");
        SkiPasses x = withProducts();
        check.dueThrow(STATE, () -> x.restore());
        x.sell(1);
        x.sell(0);
        x.pass(0, 0);
        x.setClosed(0, true);
        x.advance(480);
        x.refund(0);
        x.block(1, true);
        x.snapshot();
        x.addGate(0, 0);
        x.addProduct(0, 1, 1, 1, 1, 1);
        x.setClosed(0, false);
        x.setClosed(1, true);
        x.advance(1440);
        x.block(1, false);
        x.pass(1, 0);
        x.replace(1);
        write(x, "w5");
        for (int i = 0; i < 2; i++) {
            check.due(2, x.restore());
            check.dueThrow(STATE, () -> x.undo());
            int[] due = {960, 0, 16, 4, 3, 2, 1, 1, 2, 0};
            for (int what = 0; what < due.length; what++) {
                check.due(due[what], x.system(what));
            }
            check.due(480, x.gate(0, 5));
            check.due(0, x.gate(1, 5));
            check.due(3, x.card(0, 1));
            check.due(1, x.card(1, 1));
            check.due(0, x.card(1, 2));
            check.due(1, x.card(0, 2));
            x.clear();
        }
        x.restore();
        x.advance(1);
        check.due(1, x.system(9));
        check.due(0, x.undo());
        check.due(960, x.system(0));
        check.due(1, x.read());
        check.due(965, x.system(0));
        SkiPasses y = new SkiPasses();
        check.dueThrow(STATE, () -> y.restore());
        y.snapshot();
        y.addGate(0, 0);
        check.due(0, y.restore());
        check.due(0, y.system(3));
    }

    /** All places taken, and as many rides as 512 calls allow. */
    private static void fullHouse() {
        check.begin("a full house");
        SkiPasses x = new SkiPasses();
        for (int gate = 0; gate < 12; gate++) {
            x.addGate(gate % 4, 0);
        }
        x.addProduct(1, 9, 0, 23, 15, 9999);
        x.sell(0);
        for (int ride = 0; ride < 400; ride++) {
            check.due(ride + 1, x.pass(0, ride % 2 * 4));
        }
        check.due(400, x.partner(0, 1));
        check.due(200, x.gate(4, 3));
        check.due(9999, x.share(0, 0));
        check.due(4, x.ride(0, 399, true));
        check.due(400.0, x.meanRides());
        check.due(true, x.isConsistent());
    }
}
