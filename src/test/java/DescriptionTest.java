import java.io.IOException;

/** The Description clause by clause, at the boundary cases that each one names. */
public final class DescriptionTest extends Steps {
    private static final Check check = new Check("DescriptionTest");

    private static Sentences sentences;

    public static void main(String[] args) throws IOException {
        sentences = new Sentences(check, "What it is", "Description");
        check.run(DescriptionTest::fiveHundredAndTwelveCalls, DescriptionTest::clockFromFirstToLast,
            DescriptionTest::dayHas1440Minutes, DescriptionTest::dayZeroBeginsWithMinuteZero,
            DescriptionTest::hourIsRoundedDown, DescriptionTest::gatesUpToTwelve, DescriptionTest::gateNumbers,
            DescriptionTest::wayOfTwoGates, DescriptionTest::gateIsOpenAtFirst, DescriptionTest::productsUpToEight,
            DescriptionTest::productNumbers, DescriptionTest::kindZeroDays, DescriptionTest::kindOneDays,
            DescriptionTest::kindTwoRides, DescriptionTest::cardsUpToTwenty, DescriptionTest::cardStates,
            DescriptionTest::rideHasGateAndMinute, DescriptionTest::daysOfCard, DescriptionTest::successorTakesOver,
            DescriptionTest::replacedHasNone, DescriptionTest::passing, DescriptionTest::reasonsInOrder,
            DescriptionTest::closedGate, DescriptionTest::states, DescriptionTest::partnersOfProduct,
            DescriptionTest::hoursOfProduct, DescriptionTest::validity, DescriptionTest::wayFromLatestRide,
            DescriptionTest::sameGateWithinFiveMinutes, DescriptionTest::chains, DescriptionTest::latestRefusalIsKept,
            DescriptionTest::closedMinutesOfDay, DescriptionTest::minuteOfClock, DescriptionTest::closedDay,
            DescriptionTest::laterGatesForEarlierDays, DescriptionTest::refundByDays,
            DescriptionTest::refundOfKindTwo, DescriptionTest::refundIsPaid, DescriptionTest::sharesRoundedDown,
            DescriptionTest::missingShare, DescriptionTest::idleAmount, DescriptionTest::sharesSoFar,
            DescriptionTest::bufferOfSixty, DescriptionTest::formOfText, DescriptionTest::digitsAndNumbers,
            DescriptionTest::saleOrders, DescriptionTest::otherOrders, DescriptionTest::saleOfNone,
            DescriptionTest::errorPositions, DescriptionTest::whatChangesAre, DescriptionTest::onlyEightUndone,
            DescriptionTest::minutesThatAreCounted, DescriptionTest::todayByWhatWasCounted,
            DescriptionTest::laterGateSinceDayZero, DescriptionTest::dayWithRides, DescriptionTest::ridesTakenOver,
            DescriptionTest::whatIsLeft, DescriptionTest::refundedAndBlockedCount, DescriptionTest::textEndsTooEarly,
            DescriptionTest::ordersThatChangeNothing, DescriptionTest::bytesThatAreZero, DescriptionTest::undoOfText,
            DescriptionTest::stateUnchanged, DescriptionTest::orderOfExceptions);
        sentences.skip("What it is", "A system of passes for ski lifts");
        sentences.skip("What it is", "All numbers are whole");
        sentences.skip("What it is", "what later calls answer is free.");
        sentences.skip("Description", "The constructor and the methods follow, a promise each");
        sentences.end();
    }

    private static void says(String... texts) {
        sentences.quote("Description", texts);
    }

    private static void fiveHundredAndTwelveCalls() {
        sentences.quote("What it is", "An object is used for at most 512 calls after it has been made");
        SkiPasses x = gates(0, 0, 0, 0);
        addProduct(x, 1, 1, 9999);
        x.sell(0);
        for (int ride = 1; ride <= 506; ride++) {
            check.due(ride, x.pass(0, ride % 2));
        }
        check.due(9999, x.share(0, 0));
        check.due(506, x.system(6));
    }

    // ---- time

    private static void clockFromFirstToLast() {
        says("The clock is in minutes from 0 to 43200, at first 480.");
        SkiPasses x = new SkiPasses();
        check.due(480, x.system(0));
        check.dueThrow(ARGUMENT, () -> x.advance(-480));
        check.due(480, x.system(0));
        goTo(x, 29, 1439);
        check.due(43199, x.system(0));
        check.dueThrow(STATE, () -> x.advance(2));
        check.due(43200, x.advance(1));
        check.dueThrow(STATE, () -> x.advance(1));
        check.due(43200, x.advance(0));
        check.due(43200, x.system(0));
    }

    private static void dayHas1440Minutes() {
        says("A day has 1440 minutes");
        SkiPasses x = new SkiPasses();
        for (int day = 0; day < 30; day++) {
            goTo(x, day, 1439);
            check.due(day, x.system(1));
            x.advance(1);
            check.due(day + 1, x.system(1));
        }
        check.due(43200, x.system(0));
    }

    private static void dayZeroBeginsWithMinuteZero() {
        says("day 0 begins with minute 0.");
        SkiPasses x = gates(0, 0);
        check.due(0, x.system(1));
        closeFor(x, 1440 - 480, 0);
        check.due(1, x.system(1));
        check.due(480, x.closedMinutes(0, 0));
    }

    private static void hourIsRoundedDown() {
        says("The hour of a minute is the remainder modulo 1440, divided by 60 and rounded down.");
        SkiPasses x = new SkiPasses();
        int[][] minutesAndHours = {{480, 8}, {539, 8}, {540, 9}, {1379, 22}, {1380, 23}, {1439, 23}, {1440, 0},
            {1499, 0}, {1500, 1}, {2879, 23}, {2880, 0}, {43199, 23}, {43200, 0}};
        for (int[] row : minutesAndHours) {
            goTo(x, 0, row[0]);
            check.due(row[1], x.system(2));
        }
    }

    // ---- gates

    private static void gatesUpToTwelve() {
        says("There are up to 12 gates, numbered from 0 in the order in which they were added.");
        SkiPasses x = new SkiPasses();
        for (int number = 0; number < 12; number++) {
            check.due(number, x.addGate(number % 4, 10 + number));
        }
        check.dueThrow(STATE, () -> x.addGate(0, 0));
        check.due(12, x.system(3));
        for (int number = 0; number < 12; number++) {
            check.due(number % 4, x.gate(number, 0));
            check.due(10 + number, x.gate(number, 1));
        }
        check.dueThrow(INDEX, () -> x.gate(12, 0));
        check.due(11, x.undo() + 4);
        check.due(11, x.addGate(3, 99));
    }

    private static void gateNumbers() {
        says("Each belongs to one of the partners 0 to 3, and has a position from 0 to 99.");
        SkiPasses x = new SkiPasses();
        check.due(0, x.addGate(0, 0));
        check.due(1, x.addGate(3, 99));
        check.due(2, x.addGate(0, 99));
        check.dueThrow(ARGUMENT, () -> x.addGate(-1, 50));
        check.dueThrow(ARGUMENT, () -> x.addGate(4, 50));
        check.dueThrow(ARGUMENT, () -> x.addGate(2, -1));
        check.dueThrow(ARGUMENT, () -> x.addGate(2, 100));
        check.due(3, x.system(3));
        check.due(3, x.gate(1, 0));
        check.due(99, x.gate(1, 1));
    }

    private static void wayOfTwoGates() {
        says("The way between two gates takes as many minutes as the difference of their positions, and 10 more if "
            + "they belong to different partners.");
        SkiPasses x = gates(0, 0, 0, 99, 1, 0, 3, 99, 0, 0, 0, 1);
        int[][] ways = {{0, 99, 10, 109, 0, 1}, {99, 0, 109, 10, 99, 98}, {10, 109, 0, 109, 10, 11},
            {109, 10, 109, 0, 109, 108}, {0, 99, 10, 109, 0, 1}, {1, 98, 11, 108, 1, 0}};
        for (int gate = 0; gate < ways.length; gate++) {
            for (int other = 0; other < ways.length; other++) {
                check.due(ways[gate][other], x.way(gate, other));
            }
        }
    }

    private static void gateIsOpenAtFirst() {
        says("A gate is open or closed", "at first it is open.");
        SkiPasses x = gates(0, 0);
        x.setClosed(0, true);
        check.due(1, x.addGate(0, 0));
        check.due(1, x.gate(0, 2));
        check.due(0, x.gate(1, 2));
        check.due(1, x.system(7));
        check.due(false, x.setClosed(1, true));
        check.due(3, x.system(7));
    }

    // ---- products

    private static void productsUpToEight() {
        says("There are up to 8 products, numbered from 0 in the order in which they were added.");
        SkiPasses x = new SkiPasses();
        for (int number = 0; number < 8; number++) {
            check.due(number, addProduct(x, 1, 1 + number, 100 + number));
        }
        check.dueThrow(STATE, () -> addProduct(x, 0, 1, 1));
        check.due(8, x.system(4));
        for (int number = 0; number < 8; number++) {
            check.due(1 + number, x.product(number, 1));
            check.due(100 + number, x.product(number, 5));
        }
        check.dueThrow(INDEX, () -> x.product(8, 0));
    }

    private static void productNumbers() {
        says("A product has a kind, an amount from 1 to 9, a first hour and a last hour from 0 to 23, where the first "
            + "one is not greater than the last one, a set of partners as a bit mask from 1 to 15, and a price from 1 "
            + "to 9999.");
        SkiPasses x = new SkiPasses();
        int[][] good = {{0, 1, 0, 0, 1, 1}, {2, 9, 23, 23, 15, 9999}, {1, 5, 0, 23, 8, 50}, {1, 5, 12, 12, 8, 50}};
        for (int[] row : good) {
            int number = x.addProduct(row[0], row[1], row[2], row[3], row[4], row[5]);
            for (int what = 0; what < row.length; what++) {
                check.due(row[what], x.product(number, what));
            }
        }
        int[][] wrong = {{1, 0, 8, 9, 1, 1}, {1, 10, 8, 9, 1, 1}, {1, 1, -1, 9, 1, 1}, {1, 1, 8, 24, 1, 1},
            {1, 1, 24, 24, 1, 1}, {1, 1, -1, -1, 1, 1}, {1, 1, 9, 8, 1, 1}, {1, 1, 23, 0, 1, 1}, {1, 1, 8, 9, 0, 1},
            {1, 1, 8, 9, 16, 1}, {1, 1, 8, 9, 1, 0}, {1, 1, 8, 9, 1, 10000}, {1, 1, 8, 9, -1, 1}};
        for (int[] row : wrong) {
            check.dueThrow(ARGUMENT, () -> x.addProduct(row[0], row[1], row[2], row[3], row[4], row[5]));
        }
        check.due(good.length, x.system(4));
    }

    /** Sold on day 0, first used in the last minute of day 3. */
    private static void kindZeroDays() {
        says("Kind 0 is valid for the day of the first ride and the days after it, as many as the amount says in all.");
        for (int amount = 1; amount <= 9; amount++) {
            SkiPasses x = gates(0, 0, 0, 0);
            addProduct(x, 0, amount, 100);
            x.sell(0);
            goTo(x, 3, 1439);
            check.due(0, x.reason(0, 0));
            check.due(1, x.pass(0, 0));
            goTo(x, 3 + amount - 1, 1439);
            check.due(0, x.reason(0, 1));
            x.advance(1);
            check.due(33, x.reason(0, 1));
            x.advance(1440);
            check.due(33, x.reason(0, 1));
        }
    }

    /** A day of two has rides, and each of those has two. */
    private static void kindOneDays() {
        says("Kind 1 is valid for the first days on which there are rides, as many as the amount says.");
        for (int amount = 1; amount <= 9; amount++) {
            SkiPasses x = gates(0, 0);
            addProduct(x, 1, amount, 100);
            x.sell(0);
            for (int day = 0; day < amount; day++) {
                goTo(x, 2 * day + 1, 600);
                check.due(2 * day + 1, x.pass(0, 0));
                goTo(x, 2 * day + 1, 1439);
                check.due(2 * day + 2, x.pass(0, 0));
            }
            goTo(x, 2 * amount, 5);
            check.due(33, x.reason(0, 0));
            goTo(x, 2 * amount + 5, 5);
            check.due(33, x.reason(0, 0));
        }
    }

    private static void kindTwoRides() {
        says("Kind 2 is valid for 10 times the amount rides.");
        for (int amount = 1; amount <= 9; amount += 4) {
            SkiPasses x = gates(0, 0, 0, 0);
            addProduct(x, 2, amount, 100);
            x.sell(0);
            for (int ride = 1; ride <= 10 * amount; ride++) {
                check.due(ride, x.pass(0, ride % 2));
            }
            check.due(33, x.reason(0, 1));
            wait(x, 20 * 1440);
            check.due(33, x.reason(0, 1));
            check.dueThrow(UNSUPPORTED, () -> x.pass(0, 1));
            check.due(10 * amount, x.card(0, 2));
        }
    }

    // ---- cards

    private static void cardsUpToTwenty() {
        says("There are up to 20 cards, numbered from 0 in the order in which they were made.");
        SkiPasses x = gates(0, 0);
        addProduct(x, 0, 1, 10);
        addProduct(x, 1, 1, 20);
        check.due(0, x.sell(1));
        check.due(1, x.replace(0));
        check.due(1, read(x, "s0*9"));
        check.due(11, x.sell(1));
        check.due(12, x.replace(2));
        check.due(1, read(x, "s1*7"));
        check.due(20, x.system(5));
        check.dueThrow(STATE, () -> x.sell(0));
        check.dueThrow(STATE, () -> x.replace(1));
        check.due("UnsupportedOperationException", read(x, "s0"));
        check.due(20, x.system(5));
        int[] products = {1, 1, 0, 0, 0, 0, 0, 0, 0, 0, 0, 1, 0, 1, 1, 1, 1, 1, 1, 1};
        for (int card = 0; card < 20; card++) {
            check.due(products[card], x.card(card, 0));
        }
        check.dueThrow(INDEX, () -> x.card(20, 0));
    }

    private static void cardStates() {
        says("A card has a product and a state: 0 usable, 1 blocked, 2 replaced, 3 refunded.");
        SkiPasses x = gates(0, 0);
        addProduct(x, 0, 1, 10);
        sell(x, 0, 0, 0, 0);
        x.block(1, true);
        x.replace(2);
        x.refund(3);
        int[] states = {0, 1, 2, 3, 0};
        for (int card = 0; card < states.length; card++) {
            check.due(states[card], x.card(card, 1));
            check.due(0, x.card(card, 0));
        }
        x.block(1, false);
        check.due(0, x.card(1, 1));
    }

    private static void rideHasGateAndMinute() {
        says("A ride on a card has a gate and a minute.");
        SkiPasses x = gates(0, 0, 2, 50);
        addProduct(x, 1, 9, 10);
        x.sell(0);
        x.pass(0, 1);
        goTo(x, 29, 1439);
        x.pass(0, 0);
        x.advance(1);
        check.dueThrow(UNSUPPORTED, () -> x.pass(0, 0));
        int[][] rides = {{1, 480}, {0, 43199}};
        for (int index = 0; index < rides.length; index++) {
            check.due(rides[index][0], x.ride(0, index, true));
            check.due(rides[index][1], x.ride(0, index, false));
        }
    }

    private static void daysOfCard() {
        says("The days of a card are the days on which it has rides.");
        SkiPasses x = gates(0, 0, 0, 0);
        addProduct(x, 1, 9, 10);
        x.sell(0);
        check.due(0, x.card(0, 3));
        goTo(x, 0, 1439);
        x.pass(0, 0);
        check.due(1, x.card(0, 3));
        x.pass(0, 1);
        check.due(1, x.card(0, 3));
        x.advance(1);
        check.due(1, x.card(0, 3));
        x.pass(0, 0);
        check.due(2, x.card(0, 3));
        goTo(x, 29, 1439);
        x.pass(0, 0);
        check.due(3, x.card(0, 3));
        x.advance(1);
        x.pass(0, 1);
        check.due(4, x.card(0, 3));
    }

    private static void successorTakesOver() {
        says("A card that replaces another one takes over its product, its price, and its rides");
        SkiPasses x = gates(0, 0, 1, 0);
        addProduct(x, 0, 1, 10);
        addProduct(x, 1, 3, 9999);
        x.sell(1);
        rides(x, 0, 0, 1);
        check.due(1, x.replace(0));
        check.due(1, x.card(1, 0));
        check.due(9999, x.card(1, 6));
        check.due(2, x.card(1, 2));
        check.due(1, x.card(1, 3));
        check.due(1, x.ride(1, 1, true));
        check.due(589, x.ride(1, 0, false));
        check.due(9999, x.account(0));
        check.due(5000, x.share(1, 0));
    }

    private static void replacedHasNone() {
        says("the other one has none of these then, but knows the card that replaces it.");
        SkiPasses x = gates(0, 0);
        addProduct(x, 1, 3, 9999);
        x.sell(0);
        x.pass(0, 0);
        x.replace(0);
        x.replace(1);
        int[] due = {0, 2, 0, 0, 1, 2, 0, 0, 3};
        for (int what = 0; what < due.length; what++) {
            check.due(due[what], x.card(0, what));
        }
        check.dueThrow(ELEMENT, () -> x.ride(0, 0, true));
        check.due(0, x.share(0, 0));
        check.due(1, x.product(0, 7));
        check.due(9999, x.product(0, 8));
        check.due(1, x.system(6));
        check.due(2, x.card(1, 4));
        check.due(-1, x.card(2, 4));
    }

    // ---- passing

    private static void passing() {
        says("A card passes a gate, which is a ride on it in this minute, if nothing refuses it.");
        SkiPasses x = gates(0, 0, 0, 0);
        addProduct(x, 1, 1, 10);
        sell(x, 0, 0);
        check.due(1, x.pass(1, 1));
        check.due(480, x.ride(1, 0, false));
        check.due(0, x.card(0, 2));
        check.due(1, x.gate(1, 3));
        check.due(0, x.gate(0, 3));
        check.dueThrow(UNSUPPORTED, () -> x.pass(1, 1));
        check.due(1, x.card(1, 2));
        check.due(1, x.gate(1, 3));
        check.due(1, x.system(6));
    }

    /** Gate 1 is too far and of a partner without the product; gate 2 is too far; gate 3 was passed a minute ago. */
    private static SkiPasses allRefuse() {
        SkiPasses x = gates(0, 0, 1, 50, 0, 50, 0, 0);
        x.addProduct(2, 1, 8, 8, 1, 10);
        x.sell(0);
        goTo(x, 0, 539);
        for (int ride = 0; ride < 10; ride++) {
            x.pass(0, ride % 2 * 3);
        }
        return x;
    }

    private static void dueReasons(SkiPasses x, int card, int... reasons) {
        for (int gate = 0; gate < reasons.length; gate++) {
            check.due(reasons[gate], x.reason(card, gate));
        }
    }

    private static void reasonsInOrder() {
        says("It is asked in this order, and the first one that applies counts");
        SkiPasses x = allRefuse();
        dueReasons(x, 0, 33, 31, 33, 33);
        x.advance(1);
        dueReasons(x, 0, 32, 31, 32, 32);
        x.snapshot();
        x.block(0, true);
        dueReasons(x, 0, 21, 21, 21, 21);
        x.setClosed(1, true);
        dueReasons(x, 0, 21, 11, 21, 21);
        x.replace(0);
        dueReasons(x, 0, 22, 11, 22, 22);
        dueReasons(x, 1, 32, 11, 32, 32);
        x.refund(1);
        dueReasons(x, 1, 23, 11, 23, 23);
        x.restore();
        x.setClosed(2, true);
        x.setClosed(3, true);
        dueReasons(x, 0, 32, 31, 11, 11);
    }

    private static void closedGate() {
        says("11 the gate is closed");
        SkiPasses x = gates(0, 0, 0, 0);
        addProduct(x, 1, 1, 10);
        x.sell(0);
        x.setClosed(0, true);
        dueReasons(x, 0, 11, 0);
        check.dueThrow(UNSUPPORTED, () -> x.pass(0, 0));
        x.setClosed(0, false);
        dueReasons(x, 0, 0, 0);
        check.due(1, x.pass(0, 0));
    }

    private static void states() {
        says("21 the card is blocked", "22 it is replaced", "23 it is refunded");
        SkiPasses x = gates(0, 0);
        addProduct(x, 1, 1, 10);
        sell(x, 0, 0, 0, 0);
        x.block(1, true);
        x.replace(2);
        x.refund(3);
        int[] reasons = {0, 21, 22, 23, 0};
        for (int card = 0; card < reasons.length; card++) {
            check.due(reasons[card], x.reason(card, 0));
        }
        x.block(1, false);
        check.due(0, x.reason(1, 0));
    }

    private static void partnersOfProduct() {
        says("31 the partner of the gate is not among those of the product");
        for (int partners = 1; partners <= 8; partners += 1) {
            SkiPasses x = gates(0, 0, 1, 0, 2, 0, 3, 0);
            x.addProduct(1, 1, 0, 23, partners, 10);
            x.addProduct(1, 1, 0, 23, 15, 10);
            sell(x, 0, 1);
            for (int gate = 0; gate < 4; gate++) {
                check.due((partners >> gate & 1) == 1 ? 0 : 31, x.reason(0, gate));
                check.due(0, x.reason(1, gate));
            }
        }
    }

    private static void hoursOfProduct() {
        says("32 the hour of the minute is before the first or after the last hour of the product");
        SkiPasses x = gates(0, 0);
        x.addProduct(1, 9, 9, 10, 1, 10);
        x.addProduct(1, 9, 12, 12, 1, 10);
        x.addProduct(1, 9, 0, 0, 1, 10);
        x.addProduct(1, 9, 23, 23, 1, 10);
        sell(x, 0, 1, 2, 3);
        int[][] minutesAndReasons = {{539, 32, 32, 32, 32}, {540, 0, 32, 32, 32}, {659, 0, 32, 32, 32},
            {660, 32, 32, 32, 32}, {719, 32, 32, 32, 32}, {720, 32, 0, 32, 32}, {779, 32, 0, 32, 32},
            {780, 32, 32, 32, 32}, {1379, 32, 32, 32, 32}, {1380, 32, 32, 32, 0}, {1439, 32, 32, 32, 0},
            {1440, 32, 32, 0, 32}, {1499, 32, 32, 0, 32}, {1500, 32, 32, 32, 32}, {1440 + 540, 0, 32, 32, 32}};
        for (int[] row : minutesAndReasons) {
            goTo(x, 0, row[0]);
            for (int card = 0; card < 4; card++) {
                check.due(row[1 + card], x.reason(card, 0));
            }
        }
    }

    private static void validity() {
        says("33 the product is not valid any more, that is, with this ride there would be a day after the last day of "
            + "kind 0, or one day too many for kind 1, or one ride too many for kind 2");
        SkiPasses x = gates(0, 0, 0, 0);
        addProduct(x, 0, 2, 10);
        addProduct(x, 1, 2, 10);
        addProduct(x, 2, 1, 10);
        sell(x, 0, 1, 2);
        for (int ride = 1; ride <= 9; ride++) {
            check.due(ride, x.pass(2, ride % 2));
        }
        x.pass(0, 0);
        x.pass(1, 0);
        int[][] daysAndReasons = {{0, 0, 0, 0}, {1, 0, 0, 0}, {2, 33, 0, 0}, {3, 33, 0, 0}};
        for (int[] row : daysAndReasons) {
            goTo(x, row[0], 600);
            for (int card = 0; card < 3; card++) {
                check.due(row[1 + card], x.reason(card, 0));
            }
        }
        check.due(2, x.pass(1, 0));
        check.due(10, x.pass(2, 0));
        check.due(0, x.reason(1, 1));
        check.due(33, x.reason(2, 1));
        goTo(x, 4, 0);
        check.due(33, x.reason(1, 1));
        check.dueThrow(UNSUPPORTED, () -> x.pass(0, 0));
        check.dueThrow(UNSUPPORTED, () -> x.pass(1, 0));
        check.dueThrow(UNSUPPORTED, () -> x.pass(2, 0));
        check.due(33, x.refusal(3));
    }

    private static void wayFromLatestRide() {
        says("41 since the latest ride on the card, fewer minutes went by than the way from its gate to this one "
            + "takes");
        SkiPasses x = gates(0, 0, 0, 7, 1, 7, 3, 99, 0, 0, 0, 1);
        addProduct(x, 1, 2, 10);
        sell(x, 0, 0);
        x.pass(0, 0);
        int[] ways = {5, 7, 17, 109, 0, 1};
        for (int minute = 0; minute <= 110; minute++) {
            for (int gate = 1; gate < 6; gate += 1) {
                if (minute == ways[gate] - 1 || minute == ways[gate]) {
                    check.due(minute < ways[gate] ? 41 : 0, x.reason(0, gate));
                }
            }
            x.advance(1);
        }
        x.pass(0, 3);
        x.advance(108);
        check.due(41, x.reason(0, 0));
        check.due(0, x.reason(1, 0));
        x.advance(1);
        check.due(0, x.reason(0, 0));
        x.advance(1439 - 480 - 110 - 109);
        check.due(2 + 1, x.pass(0, 4));
        x.advance(1);
        check.due(0, x.reason(0, 5));
        check.due(41, x.reason(0, 1));
    }

    private static void sameGateWithinFiveMinutes() {
        says("42 the latest ride on the card was at this gate, less than 5 minutes ago.");
        SkiPasses x = gates(0, 0, 0, 0);
        addProduct(x, 1, 2, 10);
        sell(x, 0, 0);
        goTo(x, 0, 1437);
        x.pass(0, 0);
        for (int minute = 0; minute < 5; minute++) {
            dueReasons(x, 0, 42, 0);
            dueReasons(x, 1, 0, 0);
            x.advance(1);
        }
        dueReasons(x, 0, 0, 0);
        x.pass(0, 0);
        x.pass(0, 1);
        dueReasons(x, 0, 0, 42);
        check.due(4, x.pass(0, 0));
        dueReasons(x, 0, 42, 0);
    }

    private static void refuse(SkiPasses x, int card, int gate, int... chain) {
        check.dueThrow(UNSUPPORTED, () -> x.pass(card, gate));
        for (int index = 0; index < chain.length; index++) {
            check.due(chain[index], x.refusal(index));
        }
        check.dueThrow(ELEMENT, () -> x.refusal(chain.length));
        check.dueThrow(ELEMENT, () -> x.refusal(-1));
    }

    private static void chains() {
        SkiPasses x = allRefuse();
        says("The chain of a refusal begins with 1");
        refuse(x, 0, 0, 1, 2, 3, 33);
        check.due(1, x.refusal(0));
        says("for 31 to 33, 2, 3 and the reason");
        refuse(x, 0, 1, 1, 2, 3, 31);
        x.advance(1);
        refuse(x, 0, 0, 1, 2, 3, 32);
        says("then follows, for 11, 11 itself");
        x.setClosed(0, true);
        refuse(x, 0, 0, 1, 11);
        says("for 21 to 23, 2 and the reason");
        x.block(0, true);
        refuse(x, 0, 1, 1, 2, 21);
        x.replace(0);
        refuse(x, 0, 1, 1, 2, 22);
        x.refund(1);
        refuse(x, 1, 1, 1, 2, 23);
        says("and for 41 and 42, 2, 4 and the reason.");
        SkiPasses y = gates(0, 0, 0, 9);
        addProduct(y, 1, 1, 10);
        y.sell(0);
        y.pass(0, 0);
        refuse(y, 0, 1, 1, 2, 4, 41);
        refuse(y, 0, 0, 1, 2, 4, 42);
    }

    private static void latestRefusalIsKept() {
        says("The latest refusal is kept, whatever happens afterward, except by clear.");
        SkiPasses x = gates(0, 0, 0, 0);
        addProduct(x, 1, 1, 10);
        sell(x, 0, 0);
        x.snapshot();
        x.block(0, true);
        refuse(x, 0, 0, 1, 2, 21);
        x.undo();
        check.due(21, x.refusal(2));
        check.due(1, x.pass(0, 0));
        check.due(42, x.reason(0, 0));
        check.due(0b10, x.openGates(0));
        check.due(2, read(x, "b0;w5"));
        check.due("IllegalArgumentException", read(x, "b"));
        check.due("UnsupportedOperationException", read(x, "b7"));
        check.due(21, x.refusal(2));
        x.replace(0);
        x.refund(1);
        x.addGate(0, 0);
        x.restore();
        check.due(21, x.refusal(2));
        check.dueThrow(ELEMENT, () -> x.refusal(3));
        x.setClosed(1, true);
        refuse(x, 1, 1, 1, 11);
        check.dueThrow(INDEX, () -> x.pass(1, 2));
        check.due(11, x.refusal(1));
        x.clear();
        check.dueThrow(STATE, () -> x.refusal(0));
        x.restore();
        check.dueThrow(STATE, () -> x.refusal(0));
    }

    // ---- closed days

    private static void closedMinutesOfDay() {
        says("The minutes in which a gate is closed are counted for each day from minute 480 to minute 959 of the day, "
            + "both included");
        SkiPasses x = gates(0, 0, 0, 0);
        x.setClosed(0, true);
        int[][] minutesAndCounts = {{480, 0, 0}, {481, 1, 0}, {959, 479, 0}, {960, 480, 0}, {961, 480, 0},
            {1439, 480, 0}, {1440, 480, 0}, {1440 + 479, 480, 0}, {1440 + 480, 480, 0}, {1440 + 481, 480, 1},
            {1440 + 959, 480, 479}, {1440 + 960, 480, 480}, {2 * 1440 + 480, 480, 480}};
        for (int[] row : minutesAndCounts) {
            goTo(x, 0, row[0]);
            check.due(row[1], x.closedMinutes(0, 0));
            check.due(row[2], x.closedMinutes(0, 1));
            check.due(row[1] + row[2], x.gate(0, 5));
        }
        goTo(x, 29, 1439);
        for (int day = 0; day < 30; day++) {
            check.due(480, x.closedMinutes(0, day));
        }
        x.advance(1);
        check.due(0, x.closedMinutes(0, 30));
        check.due(30 * 480, x.gate(0, 5));
        check.due(0, x.gate(1, 5));
    }

    private static void minuteOfClock() {
        says("the minute of the clock is counted only when the clock goes on, by whether the gate is closed at that "
            + "time.");
        SkiPasses x = gates(0, 0, 0, 0);
        x.setClosed(0, true);
        x.advance(0);
        check.due(0, x.gate(0, 4));
        x.setClosed(0, false);
        x.setClosed(1, true);
        x.advance(1);
        check.due(0, x.gate(0, 4));
        check.due(1, x.gate(1, 4));
        x.setClosed(1, false);
        x.setClosed(0, true);
        x.setClosed(1, true);
        x.setClosed(1, false);
        check.due(1, x.gate(1, 4));
        x.advance(1);
        check.due(1, x.gate(0, 4));
        check.due(1, x.gate(1, 4));
        goTo(x, 0, 960);
        x.setClosed(1, true);
        x.advance(1);
        check.due(1, x.gate(1, 4));
    }

    private static void closedDay() {
        says("A day is closed for a product if there are gates of its partners, and the closed minutes of these gates "
            + "on this day, all together, are at least half of 480 times the number of these gates.");
        SkiPasses x = gates(0, 0, 0, 0, 0, 0, 1, 0);
        x.addProduct(0, 1, 0, 23, 1, 10);
        x.addProduct(0, 1, 0, 23, 2, 10);
        x.addProduct(0, 1, 0, 23, 3, 10);
        x.addProduct(0, 1, 0, 23, 12, 10);
        closeFor(x, 239, 0, 1, 2, 3);
        dueClosed(x, 0, false, false, false, false);
        closeFor(x, 1, 0, 1, 2);
        dueClosed(x, 0, true, false, false, false);
        closeFor(x, 1, 0);
        dueClosed(x, 0, true, false, true, false);
        goTo(x, 1, 480);
        dueClosed(x, 0, true, false, true, false);
        dueClosed(x, 1, false, false, false, false);
        closeFor(x, 240, 0, 3);
        dueClosed(x, 1, false, true, false, false);
        closeFor(x, 240, 0, 2);
        dueClosed(x, 1, true, true, true, false);
        dueClosed(x, 2, false, false, false, false);
        dueClosed(x, 30, false, false, false, false);
    }

    private static void dueClosed(SkiPasses x, int day, boolean... closed) {
        for (int product = 0; product < closed.length; product++) {
            check.due(closed[product], x.isClosedDay(product, day));
        }
    }

    private static void laterGatesForEarlierDays() {
        says("Gates that are added later count for earlier days as if they had been open.");
        SkiPasses x = gates(0, 0);
        addProduct(x, 0, 1, 10);
        closeFor(x, 479, 0);
        goTo(x, 1, 0);
        dueClosed(x, 0, true);
        x.addGate(3, 0);
        check.due(0, x.closedMinutes(1, 0));
        dueClosed(x, 0, false);
        x.undo();
        dueClosed(x, 0, true);
        goTo(x, 1, 480);
        closeFor(x, 480, 0);
        x.addGate(3, 0);
        dueClosed(x, 1, true);
        dueClosed(x, 0, false);
        x.addGate(0, 0);
        dueClosed(x, 1, false);
    }

    // ---- money

    private static void refundByDays() {
        says("The refund of a card with a product of kind 0 or 1 is its price divided by the amount, rounded down, "
            + "times the number of its days that are closed for the product, where today counts as well.");
        SkiPasses x = gates(0, 0, 0, 0);
        addProduct(x, 0, 3, 17);
        addProduct(x, 1, 3, 17);
        addProduct(x, 0, 9, 8);
        sell(x, 0, 1, 2, 0, 1);
        for (int day = 0; day < 3; day++) {
            goTo(x, day, 480);
            for (int card = 0; card < 3; card++) {
                x.pass(card, 1);
            }
            closeFor(x, 479, 0);
            dueRefunds(x, 5 * day, 5 * day, 0, 0, 0);
            closeFor(x, 1, 0);
            dueRefunds(x, 5 * (day + 1), 5 * (day + 1), 0, 0, 0);
        }
        x.pass(3, 1);
        goTo(x, 3, 480);
        x.pass(4, 1);
        dueRefunds(x, 15, 15, 0, 5, 0);
        closeFor(x, 480, 0);
        dueRefunds(x, 15, 15, 0, 5, 5);
    }

    private static void dueRefunds(SkiPasses x, int... refunds) {
        int sum = 0;
        for (int card = 0; card < refunds.length; card++) {
            check.due(refunds[card], x.refundable(card));
            sum += refunds[card];
        }
        check.due(sum, x.account(4));
    }

    private static void refundOfKindTwo() {
        says("With kind 2 it is 0.");
        SkiPasses x = gates(0, 0, 0, 0);
        addProduct(x, 2, 1, 9999);
        x.sell(0);
        x.pass(0, 1);
        closeFor(x, 480, 0, 1);
        check.due(true, x.isClosedDay(0, 0));
        check.due(0, x.refundable(0));
        check.due(0, x.refund(0));
        check.due(3, x.card(0, 1));
        check.due(9999, x.share(0, 0));
    }

    private static void refundIsPaid() {
        says("To refund a card means to pay this to the customer", "the card is refunded then.");
        SkiPasses x = gates(0, 0);
        addProduct(x, 1, 1, 9999);
        sell(x, 0, 0);
        x.pass(0, 0);
        closeFor(x, 240, 0);
        check.due(9999, x.refund(0));
        check.due(0, x.refund(1));
        check.due(9999, x.card(0, 7));
        check.due(0, x.card(1, 7));
        check.due(9999, x.account(1));
        check.due(0, x.account(4));
        check.due(3, x.card(0, 1));
        check.due(3, x.card(1, 1));
        check.dueThrow(STATE, () -> x.refund(0));
        check.dueThrow(STATE, () -> x.refund(1));
        check.due(9999, x.account(1));
        check.due(0, x.share(0, 0));
    }

    private static SkiPasses fourPartners(int price) {
        SkiPasses x = gates(0, 0, 1, 0, 2, 0, 3, 0);
        addProduct(x, 1, 9, price);
        x.sell(0);
        return x;
    }

    private static void dueShares(SkiPasses x, int... shares) {
        for (int partner = 0; partner < shares.length; partner++) {
            check.due(shares[partner], x.share(0, partner));
        }
    }

    private static void sharesRoundedDown() {
        says("What is left of the price of a card behind its refund, if it was refunded, is shared by its rides: the "
            + "share of a partner is that amount times the number of rides at gates of this partner, divided by the "
            + "number of all rides on the card, rounded down");
        SkiPasses x = fourPartners(100);
        for (int gate : new int[] {3, 3, 3, 1, 1, 2}) {
            x.advance(10);
            x.pass(0, gate);
        }
        dueShares(x, 0, 33, 16, 51);
        closeFor(x, 240, 0, 1, 2, 3);
        check.due(11, x.refundable(0));
        dueShares(x, 0, 33, 16, 51);
        check.due(11, x.refund(0));
        dueShares(x, 0, 29, 14, 46);
        SkiPasses y = fourPartners(1);
        rides(y, 0, 2, 1, 1);
        dueShares(y, 0, 1, 0, 0);
        SkiPasses z = fourPartners(9999);
        rides(z, 0, 2);
        dueShares(z, 0, 0, 9999, 0);
    }

    private static void missingShare() {
        says("what is missing then goes to the partner with the most rides, of several to the lowest number.");
        SkiPasses x = fourPartners(103);
        rides(x, 0, 3, 2, 1, 0);
        dueShares(x, 28, 25, 25, 25);
        rides(x, 0, 3);
        dueShares(x, 20, 20, 20, 43);
        rides(x, 0, 1);
        dueShares(x, 17, 35, 17, 34);
        SkiPasses y = fourPartners(100);
        rides(y, 0, 3, 2, 3, 2, 1);
        dueShares(y, 0, 20, 40, 40);
        rides(y, 0, 1);
        dueShares(y, 0, 34, 33, 33);
    }

    private static void idleAmount() {
        says("If the card has no rides, this amount is idle.");
        SkiPasses x = fourPartners(103);
        x.sell(0);
        check.due(206, x.account(3));
        check.due(0, x.account(2));
        dueShares(x, 0, 0, 0, 0);
        x.pass(0, 2);
        check.due(103, x.account(3));
        check.due(103, x.account(2));
        x.refund(1);
        check.due(103, x.account(3));
        x.replace(0);
        check.due(103, x.account(3));
        check.due(103, x.account(2));
    }

    private static void sharesSoFar() {
        says("Shares are told by the rides so far.");
        SkiPasses x = fourPartners(90);
        x.pass(0, 1);
        dueShares(x, 0, 90, 0, 0);
        x.advance(10);
        x.pass(0, 3);
        dueShares(x, 0, 45, 0, 45);
        x.advance(10);
        x.pass(0, 0);
        dueShares(x, 30, 30, 0, 30);
        x.undo();
        dueShares(x, 0, 45, 0, 45);
        x.replace(0);
        dueShares(x, 0, 0, 0, 0);
        check.due(45, x.share(1, 3));
    }

    // ---- texts

    private static void bufferOfSixty() {
        says("The input buffer holds up to 60 characters with codes from 32 to 126.");
        SkiPasses x = new SkiPasses();
        check.due(0, x.system(8));
        for (int sign = 1; sign < 256; sign++) {
            int code = sign;
            if (sign < 32 || sign > 126) {
                check.dueThrow(ARGUMENT, () -> x.append(code));
            }
        }
        check.due(0, x.system(8));
        for (int sign = 32; sign < 92; sign++) {
            check.due(sign - 31, x.append(sign));
        }
        check.dueThrow(STATE, () -> x.append('s'));
        check.due(60, x.system(8));
        SkiPasses y = new SkiPasses();
        for (int sign = 92; sign < 127; sign++) {
            check.due(sign - 91, y.append(sign));
        }
    }

    /** After each of these beginnings, the signs with which a text can go on. */
    private static void formOfText() {
        says("A text of orders has the following form", "text = order { \";\" order }",
            "order = \"s\" digit [ \"*\" digit ] | ( \"b\" | \"u\" | \"r\" | \"c\" | \"o\" | \"w\" ) number");
        String digits = "0123456789";
        String[][] beginnings = {{"", "sburcow"}, {"s", digits}, {"s0", "*;"}, {"s9", "*;"}, {"s0*", digits},
            {"s0*0", ";"}, {"s0*9", ";"}, {"b", digits}, {"u", digits}, {"r", digits}, {"c", digits}, {"o", digits},
            {"w", digits}, {"w0", ";"}, {"b0", ";"}, {"w1", digits + ";"}, {"w10", digits + ";"},
            {"w999", digits + ";"}, {"w9999", ";"}, {"s0;", "sburcow"}, {"w0;s0*1;", "sburcow"}};
        for (String[] row : beginnings) {
            for (char sign = 32; sign < 127; sign++) {
                goesOn(row[0], sign, row[1].indexOf(sign) >= 0);
            }
        }
    }

    private static void goesOn(String beginning, char sign, boolean goesOn) {
        SkiPasses x = new SkiPasses();
        read(x, beginning + sign + "~");
        check.due(beginning.length() + (goesOn ? 1 : 0), x.errorPosition());
    }

    private static void wellFormed(String text, int orders) {
        SkiPasses x = gates(0, 0);
        addProduct(x, 0, 1, 1);
        check.due(orders, read(x, text));
        check.dueThrow(ELEMENT, () -> x.errorPosition());
    }

    private static void malformed(String text, int position) {
        SkiPasses x = gates(0, 0);
        addProduct(x, 0, 1, 1);
        check.due("IllegalArgumentException", read(x, text));
        check.due(position, x.errorPosition());
        check.due(0, x.system(5));
        check.due(0, x.system(8));
    }

    private static void digitsAndNumbers() {
        says("A digit is 0 to 9", "a number has 1 to 4 digits, and no leading zero unless it is 0.");
        wellFormed("w0", 1);
        wellFormed("w9", 1);
        wellFormed("w10", 1);
        wellFormed("w999", 1);
        wellFormed("w2880", 1);
        malformed("w", 1);
        malformed("w00", 2);
        malformed("w01", 2);
        malformed("w0000", 2);
        malformed("w28800", 5);
        malformed("w10000", 5);
        malformed("w-1", 1);
        malformed("w+1", 1);
        malformed("w1.", 2);
        malformed("w/", 1);
        malformed("w:", 1);
        malformed("w1:", 2);
        malformed("s/", 1);
        malformed("s:", 1);
        malformed("s00", 2);
        malformed("s0*/", 3);
        malformed("s0*:", 3);
        malformed("s0*00", 4);
        SkiPasses x = new SkiPasses();
        check.due(3, read(x, "w1234;w567;w89"));
        check.due(480 + 1234 + 567 + 89, x.system(0));
    }

    private static void saleOrders() {
        says("\"s\" sells as many cards of a product as the second digit says, or one");
        SkiPasses x = gates(0, 0);
        for (int product = 0; product < 8; product++) {
            addProduct(x, 0, 1, 1);
        }
        check.due(1, read(x, "s7"));
        check.due(1, x.system(5));
        check.due(1, read(x, "s0*1"));
        check.due(2, x.system(5));
        check.due(1, read(x, "s5*9"));
        check.due(11, x.system(5));
        check.due(2, read(x, "s1*2;s2*7"));
        check.due(20, x.system(5));
        int[] products = {7, 0, 5, 5, 5, 5, 5, 5, 5, 5, 5, 1, 1, 2, 2, 2, 2, 2, 2, 2};
        for (int card = 0; card < 20; card++) {
            check.due(products[card], x.card(card, 0));
        }
        x.undo();
        check.due("UnsupportedOperationException", read(x, "s1*1;s2*9"));
        check.due(1, x.refusedOrder());
        check.due(11, x.system(5));
        check.due(1, read(x, "s2*9"));
        check.due(20, x.system(5));
    }

    private static void otherOrders() {
        says("\"b\" blocks a card, \"u\" makes a blocked card usable, \"r\" replaces a card, \"c\" closes a gate, "
            + "\"o\" opens it, and \"w\" lets that many minutes go by");
        SkiPasses x = gates(0, 0, 0, 0, 0, 0);
        addProduct(x, 1, 1, 1);
        sell(x, 0, 0);
        check.due(1, read(x, "b1"));
        check.due(0, x.card(0, 1));
        check.due(1, x.card(1, 1));
        check.due(1, read(x, "u1"));
        check.due(0, x.card(1, 1));
        check.due(1, read(x, "r1"));
        check.due(2, x.card(1, 1));
        check.due(2, x.card(1, 4));
        check.due(0, x.card(2, 1));
        check.due(2, read(x, "c0;c2"));
        check.due(5, x.system(7));
        check.due(1, read(x, "o0"));
        check.due(4, x.system(7));
        check.due(1, read(x, "w61"));
        check.due(541, x.system(0));
        check.due(61, x.gate(2, 4));
        check.due(0, x.gate(0, 4));
    }

    private static void saleOfNone() {
        says("\"s\" with the second digit 0 sells none, but there must be such a product.");
        SkiPasses x = gates(0, 0);
        check.due("UnsupportedOperationException", read(x, "s0*0"));
        check.due(0, x.refusedOrder());
        addProduct(x, 0, 1, 1);
        check.due(1, read(x, "s0*0"));
        check.due(0, x.system(5));
        check.due(3, x.system(9));
        check.due("UnsupportedOperationException", read(x, "s0*0;s1*0"));
        check.due(1, x.refusedOrder());
        check.due("UnsupportedOperationException", read(x, "s8*0"));
        check.due("UnsupportedOperationException", read(x, "s9*0"));
        check.due(4, read(x, "s0*9;s0*9;s0*2;s0*0"));
        check.due(20, x.system(5));
    }

    private static void errorPositions() {
        says("The error position of a text that is malformed is the lowest index of a character with which, after the "
            + "characters before it, no such text can go on, or the length of the text if there is no such index.");
        malformed("", 0);
        malformed("s", 1);
        malformed("s0;", 3);
        malformed("s0*", 3);
        malformed("w1234;b", 7);
        malformed("s0*1;", 5);
        malformed(" s0", 0);
        malformed("s0 ", 2);
        malformed("s0;;s0", 3);
        malformed("s0;x;y", 3);
        malformed("s0*1*1", 4);
        malformed("b1*1", 2);
        malformed("b12345;", 5);
        malformed("sx;", 1);
        String fill = "w0;w0;w0;w0;w0;w0;w0;w0;w0;w0;w0;w0;w0;w0;w0;w0;w0;w0;w0;";
        malformed(fill + "w0;", 60);
        malformed(fill + "w0*", 59);
        malformed(fill + "w", 58);
        wellFormed(fill + "w0", 20);
        wellFormed(fill + "w12", 20);
    }

    // ---- changes

    /** A call is a change if one more can be undone after it. */
    private static void isChange(SkiPasses x, boolean isChange, Check.Call call) {
        x.restore();
        check.due(0, x.system(9));
        call.answer();
        check.due(isChange ? 1 : 0, x.system(9));
    }

    private static void whatChangesAre() {
        says("The changes are the successful calls, also those by which nothing changes, of addGate, addProduct, sell, "
            + "pass, advance, setClosed, block, replace, refund and read since the last call of clear, or since the "
            + "object was created.");
        check.due(0, new SkiPasses().system(9));
        SkiPasses x = gates(0, 0);
        addProduct(x, 1, 1, 1);
        x.sell(0);
        check.due(3, x.system(9));
        x.snapshot();
        isChange(x, true, () -> x.addGate(0, 0));
        isChange(x, true, () -> addProduct(x, 0, 1, 1));
        isChange(x, true, () -> x.sell(0));
        isChange(x, true, () -> x.pass(0, 0));
        isChange(x, true, () -> x.advance(1));
        isChange(x, true, () -> x.advance(0));
        isChange(x, true, () -> x.setClosed(0, true));
        isChange(x, true, () -> x.setClosed(0, false));
        isChange(x, true, () -> x.block(0, true));
        isChange(x, true, () -> x.block(0, false));
        isChange(x, true, () -> x.replace(0));
        isChange(x, true, () -> x.refund(0));
        isChange(x, true, () -> read(x, "s0;b0;r1;c0;o0;w7"));
        isChange(x, true, () -> read(x, "s0*0"));
        isChange(x, true, () -> read(x, "w0"));
        isChange(x, false, () -> read(x, "w0;w"));
        isChange(x, false, () -> read(x, "w0;w9999"));
        isChange(x, false, () -> x.append('w'));
        isChange(x, false, () -> x.snapshot());
        isChange(x, false, () -> x.restore());
        isChange(x, false, () -> Check.outcome(() -> x.addGate(4, 0)));
        isChange(x, false, () -> Check.outcome(() -> x.sell(1)));
        isChange(x, false, () -> Check.outcome(() -> x.advance(2881)));
        isChange(x, false, () -> Check.outcome(() -> x.setClosed(1, true)));
        isChange(x, false, () -> Check.outcome(() -> x.block(1, true)));
        isChange(x, false, () -> Check.outcome(() -> x.replace(1)));
        isChange(x, false, () -> Check.outcome(() -> x.refund(1)));
        isChange(x, false, () -> Check.outcome(() -> x.pass(0, 1)));
        x.advance(1);
        x.clear();
        check.due(0, x.system(9));
        x.advance(1);
        check.due(1, x.system(9));
    }

    private static void onlyEightUndone() {
        says("Whenever a change is made, it can be undone, and of those that could be undone before it, only the "
            + "latest 7 still can, so that there are at most 8.");
        SkiPasses x = new SkiPasses();
        for (int change = 1; change <= 11; change++) {
            x.advance(change);
            check.due(Math.min(change, 8), x.system(9));
        }
        int clock = 480 + 66;
        for (int change = 11; change >= 4; change--) {
            check.due(change - 4, x.undo());
            clock -= change;
            check.due(clock, x.system(0));
        }
        check.dueThrow(STATE, () -> x.undo());
        check.due(480 + 6, x.system(0));
        for (int change = 1; change <= 7; change++) {
            x.advance(10);
        }
        check.due(6, x.undo());
        check.due(5, x.undo());
        for (int change = 6; change <= 9; change++) {
            x.advance(100);
            check.due(Math.min(change, 8), x.system(9));
        }
        for (int left = 7; left >= 0; left--) {
            check.due(left, x.undo());
        }
        check.due(480 + 6 + 10, x.system(0));
        check.dueThrow(STATE, () -> x.undo());
    }

    // ---- details

    private static void minutesThatAreCounted() {
        says("When the clock goes on by some minutes, as many minutes are counted, from the one of the clock on.");
        SkiPasses x = gates(0, 0);
        addProduct(x, 0, 1, 10);
        closeFor(x, 7, 0);
        check.due(7, x.gate(0, 5));
        goTo(x, 0, 955);
        closeFor(x, 5, 0);
        check.due(12, x.gate(0, 5));
        closeFor(x, 1440 - 480, 0);
        check.due(12, x.gate(0, 5));
        closeFor(x, 2880, 0);
        check.due(12 + 960, x.gate(0, 5));
        goTo(x, 4, 470);
        closeFor(x, 11, 0);
        check.due(12 + 960 + 1, x.gate(0, 5));
    }

    private static void todayByWhatWasCounted() {
        says("Today is closed for a product by what was counted so far, and gates that were added later count among "
            + "the gates of earlier days.");
        SkiPasses x = gates(0, 0);
        addProduct(x, 0, 1, 10);
        closeFor(x, 239, 0);
        check.due(false, x.isClosedDay(0, 0));
        closeFor(x, 1, 0);
        check.due(true, x.isClosedDay(0, 0));
        x.addGate(0, 0);
        check.due(false, x.isClosedDay(0, 0));
        closeFor(x, 239, 0);
        check.due(false, x.isClosedDay(0, 0));
        closeFor(x, 1, 1);
        check.due(true, x.isClosedDay(0, 0));
        goTo(x, 5, 0);
        check.due(true, x.isClosedDay(0, 0));
        x.addGate(1, 0);
        check.due(false, x.isClosedDay(0, 0));
    }

    private static void laterGateSinceDayZero() {
        says("A gate that was added later is compared with all minutes since day 0.");
        SkiPasses x = gates(0, 0);
        goTo(x, 1, 480 + 120);
        x.addGate(0, 0);
        check.due(0.0f, x.closedShare(1));
        closeFor(x, 200, 1);
        check.due(200.0f / 800.0f, x.closedShare(1));
    }

    private static void dayWithRides() {
        says("A day on which a card has rides is never one too many for it.");
        SkiPasses x = gates(0, 0);
        addProduct(x, 1, 1, 10);
        addProduct(x, 1, 2, 10);
        sell(x, 0, 1);
        x.pass(1, 0);
        goTo(x, 1, 0);
        x.pass(0, 0);
        x.pass(1, 0);
        goTo(x, 1, 1439);
        check.due(2, x.pass(0, 0));
        check.due(3, x.pass(1, 0));
        x.advance(5);
        dueReasons(x, 0, 33);
        dueReasons(x, 1, 33);
    }

    private static void ridesTakenOver() {
        says("Rides that a card took over count for the ways, too.");
        SkiPasses x = gates(0, 0, 0, 9);
        addProduct(x, 1, 1, 10);
        x.sell(0);
        x.pass(0, 0);
        check.due(1, x.replace(0));
        dueReasons(x, 1, 42, 41);
        check.due(2, x.replace(1));
        x.advance(8);
        dueReasons(x, 2, 0, 41);
        x.advance(1);
        dueReasons(x, 2, 0, 0);
    }

    private static void refundedAndBlockedCount() {
        says("Refunded and blocked cards count as cards with their prices and rides");
        SkiPasses x = gates(0, 0, 1, 0);
        addProduct(x, 1, 1, 10);
        sell(x, 0, 0, 0);
        for (int card = 0; card < 3; card++) {
            x.pass(card, 0);
        }
        x.refund(0);
        x.block(1, true);
        check.due(3, x.product(0, 7));
        check.due(30, x.product(0, 8));
        check.due(30, x.account(0));
        check.due(3, x.system(6));
        check.due(3, x.gate(0, 3));
        check.due(1.0, x.meanRides());
        check.due(3, x.partner(0, 1));
        check.due(3, x.partner(0, 3));

        says("a partner has only the cards that have the rides now.");
        x.replace(1);
        x.replace(3);
        check.due(3, x.partner(0, 3));
        check.due(0, x.partner(1, 3));
        x.advance(10);
        x.pass(4, 1);
        check.due(3, x.partner(0, 3));
        check.due(1, x.partner(1, 3));
    }

    private static void whatIsLeft() {
        says("For a card that is replaced, what is left is told as for one without rides, and for others whatever "
            + "their state is.");
        for (int kind = 0; kind < 3; kind++) {
            int whole = kind == 2 ? 20 : 2;
            int left = kind == 2 ? 19 : 1;
            SkiPasses x = gates(0, 0);
            addProduct(x, kind, 2, 10);
            sell(x, 0, 0, 0);
            for (int card = 0; card < 3; card++) {
                x.pass(card, 0);
            }
            goTo(x, 1, 0);
            x.block(0, true);
            x.refund(1);
            x.replace(2);
            int[] due = {left, left, whole, left};
            for (int card = 0; card < due.length; card++) {
                check.due(due[card], x.card(card, 8));
            }
        }
    }

    private static void textEndsTooEarly() {
        says("The text \"s3*\" ends too early.");
        malformed("s3*", 3);
        malformed("s0;s3*", 6);
    }

    private static void ordersThatChangeNothing() {
        says("Orders that change nothing are carried out, and an order with too many minutes is refused.");
        SkiPasses x = gates(0, 0);
        addProduct(x, 1, 1, 10);
        x.sell(0);
        check.due(4, read(x, "o0;u0;w0;s0*0"));
        check.due(4, x.system(9));
        check.due(4, read(x, "c0;c0;b0;b0"));
        check.due(1, read(x, "w2880"));
        for (String text : new String[] {"w0;w2881", "w0;w9999", "w2880;w2881"}) {
            check.due("UnsupportedOperationException", read(x, text));
            check.due(1, x.refusedOrder());
            check.due(3360, x.system(0));
        }
        goTo(x, 29, 1439);
        check.due("UnsupportedOperationException", read(x, "w2"));
        check.due(1, read(x, "w1"));
        check.due("UnsupportedOperationException", read(x, "w1"));
    }

    private static void bytesThatAreZero() {
        says("An int with bytes that are 0 anywhere has the other ones only.");
        for (int mask = 0; mask < 16; mask++) {
            int packed = 0;
            StringBuilder text = new StringBuilder();
            for (int place = 0; place < 4; place++) {
                boolean isThere = (mask >> place & 1) == 1;
                packed = packed << 8 | (isThere ? "w0;~".charAt(text.length()) : 0);
                text.append(isThere ? "w0;~".charAt(text.length()) : "");
            }
            SkiPasses y = new SkiPasses();
            check.due(text.length(), y.append(packed));
            check.due(text.length() == 2 ? 1 : "IllegalArgumentException", Check.outcome(() -> y.read()));
            if (text.length() != 2) {
                check.due(Math.min(text.length(), 3), y.errorPosition());
            }
        }
    }

    private static void undoOfText() {
        says("An undo of a text takes all of its orders back.");
        SkiPasses x = gates(0, 0, 0, 0);
        addProduct(x, 1, 1, 10);
        x.sell(0);
        x.pass(0, 0);
        check.due(8, read(x, "s0*3;b0;r0;r4;c1;w2880;u5;b1"));
        check.due(5, x.undo());
        SkiPasses same = gates(0, 0, 0, 0);
        addProduct(same, 1, 1, 10);
        same.sell(0);
        same.pass(0, 0);
        check.due(Witness.of(same), Witness.of(x));
    }

    // ---- exceptions

    private static void stateUnchanged() {
        says("A call that throws an exception leaves the state unchanged, unless its description says otherwise.");
        for (RefusedCalls.Refused refused : RefusedCalls.refused()) {
            SkiPasses x = refused.start().get();
            String thrown = Check.outcome(() -> refused.call().apply(x)).toString();
            check.due(refused.name() + " " + refused.due().getSimpleName(), refused.name() + " " + thrown);
            check.due(refused.name() + "\n" + Witness.of(refused.alike().get()), refused.name() + "\n" + Witness.of(x));
        }
    }

    private static void orderOfExceptions() {
        says("If a method can throw several exceptions, they are checked in the order in which they are listed.");
        for (RefusedCalls.Refused refused : RefusedCalls.twiceWrong()) {
            SkiPasses x = refused.start().get();
            String thrown = Check.outcome(() -> refused.call().apply(x)).toString();
            check.due(refused.name() + " " + refused.due().getSimpleName(), refused.name() + " " + thrown);
        }
    }
}
