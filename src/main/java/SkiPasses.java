import java.util.Arrays;
import java.util.NoSuchElementException;

/** Passes for ski lifts: gates, products, cards, closed days, refunds, shares, texts of orders and undo. */
public final class SkiPasses {
    private static final int MOST_GATES = 12;
    private static final int MOST_PRODUCTS = 8;
    private static final int MOST_CARDS = 20;
    private static final int MOST_SIGNS = 60;
    private static final int MOST_CHANGES = 8;
    private static final int PARTNERS = 4;

    private static final int MINUTES_OF_HOUR = 60;
    private static final int MINUTES_OF_DAY = 1440;
    private static final int DAYS = 31;
    private static final int FIRST_CLOCK = 480;
    private static final int LAST_CLOCK = 43200;
    private static final int MOST_ADVANCE = 2880;
    private static final int COUNTED_FROM = 480;
    private static final int COUNTED_TO = 960;
    private static final int COUNTED_PER_DAY = COUNTED_TO - COUNTED_FROM;

    private static final int WAY_TO_OTHER_PARTNER = 10;
    private static final int MINUTES_TO_SAME_GATE = 5;
    private static final int RIDES_PER_AMOUNT = 10;

    private static final int FOLLOWING_DAYS = 0;
    private static final int DAYS_WITH_RIDES = 1;
    private static final int RIDES = 2;

    private static final int USABLE = 0;
    private static final int BLOCKED = 1;
    private static final int REPLACED = 2;
    private static final int REFUNDED = 3;

    private static final int NO_REASON = 0;
    private static final int GATE_CLOSED = 11;
    private static final int BEFORE_STATES = 20;
    private static final int WRONG_PARTNER = 31;
    private static final int WRONG_HOUR = 32;
    private static final int NOT_VALID = 33;
    private static final int WAY_TOO_LONG = 41;
    private static final int SAME_GATE_TOO_SOON = 42;

    private static final int NONE = -1;

    private final Resort now = new Resort();
    private final Resort kept = new Resort();
    private final History history = new History();
    private final Text text = new Text();
    private final Shares shares = new Shares();
    private boolean hasSnapshot = false;
    private int latestRefusal = NO_REASON;
    private int latestError = NONE;
    private int latestRefused = NONE;

    public SkiPasses() {
    }

    public int clear() {
        int cards = now.cardCount;
        now.empty();
        history.forget();
        latestRefusal = NO_REASON;
        return cards;
    }

    // ---- gates and products

    public int addGate(int partner, int position) throws IllegalArgumentException, IllegalStateException {
        if (!isPartner(partner) || !isBetween(position, 0, 99)) {
            throw new IllegalArgumentException("a number of the gate is out of range");
        }
        if (now.gateCount >= MOST_GATES) {
            throw new IllegalStateException("there is no room for a gate");
        }
        history.record(now);
        return now.insertGate(new Gate(now.gateCount, partner, position));
    }

    public int addProduct(int kind, int amount, int first, int last, int partners, int price)
            throws IllegalArgumentException, IllegalStateException {
        boolean hoursAreGood = isBetween(first, 0, 23) && isBetween(last, first, 23);
        boolean othersAreGood = isBetween(kind, FOLLOWING_DAYS, RIDES) && isBetween(amount, 1, 9)
                && isBetween(partners, 1, 15) && isBetween(price, 1, 9999);
        if (!hoursAreGood || !othersAreGood) {
            throw new IllegalArgumentException("a number of the product is out of range");
        }
        if (now.productCount >= MOST_PRODUCTS) {
            throw new IllegalStateException("there is no room for a product");
        }
        history.record(now);
        return now.insertProduct(new Product(now.productCount, kind, amount, first, last, partners, price));
    }

    public int gate(int gate, int what) throws IndexOutOfBoundsException, IllegalArgumentException {
        Gate asked = existingGate(gate);
        switch (what) {
            case 0:
                return asked.partner;
            case 1:
                return asked.position;
            case 2:
                return now.isShut(asked) ? 1 : 0;
            case 3:
                return now.ridesThrough(asked);
            case 4:
                return now.closedOn(asked, now.today());
            case 5:
                return now.closedOnAllDays(asked);
            default:
                throw new IllegalArgumentException("a gate has no such number");
        }
    }

    public int product(int product, int what) throws IndexOutOfBoundsException, IllegalArgumentException {
        Product asked = existingProduct(product);
        switch (what) {
            case 0:
                return asked.kind;
            case 1:
                return asked.amount;
            case 2:
                return asked.first;
            case 3:
                return asked.last;
            case 4:
                return asked.partners;
            case 5:
                return asked.price;
            case 6:
                return now.gatesFor(asked);
            case 7:
                return now.cardsWith(asked);
            case 8:
                return now.cardsWith(asked) * asked.price;
            default:
                throw new IllegalArgumentException("a product has no such number");
        }
    }

    public int way(int gate, int other) throws IndexOutOfBoundsException {
        Gate from = existingGate(gate);
        Gate to = existingGate(other);
        return from.wayTo(to);
    }

    // ---- time

    public int advance(int minutes) throws IllegalArgumentException, IllegalStateException {
        if (!isBetween(minutes, 0, MOST_ADVANCE)) {
            throw new IllegalArgumentException("the number of minutes is out of range");
        }
        if (now.clock + minutes > LAST_CLOCK) {
            throw new IllegalStateException("the clock would be beyond its end");
        }
        history.record(now);
        now.goOn(minutes);
        return now.clock;
    }

    public int system(int what) throws IllegalArgumentException {
        switch (what) {
            case 0:
                return now.clock;
            case 1:
                return now.today();
            case 2:
                return now.hour();
            case 3:
                return now.gateCount;
            case 4:
                return now.productCount;
            case 5:
                return now.cardCount;
            case 6:
                return now.ridesOnAllCards();
            case 7:
                return now.shutGates;
            case 8:
                return text.length;
            case 9:
                return history.changes;
            default:
                throw new IllegalArgumentException("the system has no such number");
        }
    }

    public boolean setClosed(int gate, boolean on) throws IndexOutOfBoundsException {
        Gate moved = existingGate(gate);
        boolean before = now.isShut(moved);
        history.record(now);
        now.shut(moved, on);
        return before;
    }

    public int closedMinutes(int gate, int day) throws IndexOutOfBoundsException, IllegalArgumentException {
        Gate asked = existingGate(gate);
        if (!isDay(day)) {
            throw new IllegalArgumentException("the day is out of range");
        }
        return now.closedOn(asked, day);
    }

    public boolean isClosedDay(int product, int day) throws IndexOutOfBoundsException, IllegalArgumentException {
        Product asked = existingProduct(product);
        if (!isDay(day)) {
            throw new IllegalArgumentException("the day is out of range");
        }
        return now.isClosedFor(asked, day);
    }

    // ---- cards

    public int sell(int product) throws IndexOutOfBoundsException, IllegalStateException {
        Product sold = existingProduct(product);
        if (!now.hasRoomForCards(1)) {
            throw new IllegalStateException("there is no room for a card");
        }
        history.record(now);
        return now.insertCards(sold, 1);
    }

    public int pass(int card, int gate) throws IndexOutOfBoundsException, UnsupportedOperationException {
        Card passing = existingCard(card);
        Gate passed = existingGate(gate);
        int reason = now.reasonAgainst(passing, passed);
        if (reason != NO_REASON) {
            latestRefusal = reason;
            throw new UnsupportedOperationException("the gate refuses the card");
        }
        history.record(now);
        return now.addRide(passing, passed);
    }

    public int reason(int card, int gate) throws IndexOutOfBoundsException {
        Card asking = existingCard(card);
        Gate asked = existingGate(gate);
        return now.reasonAgainst(asking, asked);
    }

    public int openGates(int card) throws IndexOutOfBoundsException {
        return now.gatesThatLetPass(existingCard(card));
    }

    public int refusal(int index) throws IllegalStateException, NoSuchElementException {
        if (latestRefusal == NO_REASON) {
            throw new IllegalStateException("nothing was refused");
        }
        int number = numberInChain(latestRefusal, index);
        if (number == NONE) {
            throw new NoSuchElementException("the chain has no such index");
        }
        return number;
    }

    public int block(int card, boolean on) throws IndexOutOfBoundsException, IllegalStateException {
        Card changed = existingCard(card);
        if (changed.isSettled()) {
            throw new IllegalStateException("the card is replaced or refunded");
        }
        history.record(now);
        now.setBlocked(changed, on);
        return changed.state;
    }

    public int replace(int card) throws IndexOutOfBoundsException, IllegalStateException {
        Card old = existingCard(card);
        if (old.isSettled() || !now.hasRoomForCards(1)) {
            throw new IllegalStateException("the card can't be replaced");
        }
        history.record(now);
        return now.exchange(old);
    }

    public int card(int card, int what) throws IndexOutOfBoundsException, IllegalArgumentException {
        Card asked = existingCard(card);
        switch (what) {
            case 0:
                return asked.product.number;
            case 1:
                return asked.state;
            case 2:
                return asked.rideCount();
            case 3:
                return Integer.bitCount(asked.dayMask());
            case 4:
                return asked.successor;
            case 5:
                return now.lastSuccessor(asked);
            case 6:
                return asked.price();
            case 7:
                return asked.refunded;
            case 8:
                return asked.leftOn(now.today());
            default:
                throw new IllegalArgumentException("a card has no such number");
        }
    }

    public int ride(int card, int index, boolean isGate) throws IndexOutOfBoundsException, NoSuchElementException {
        Ride asked = existingCard(card).rideAt(index);
        if (asked == null) {
            throw new NoSuchElementException("there is no such ride");
        }
        return isGate ? asked.gate.number : asked.minute;
    }

    // ---- money

    public int refundable(int card) throws IndexOutOfBoundsException {
        return now.refundFor(existingCard(card));
    }

    public int refund(int card) throws IndexOutOfBoundsException, IllegalStateException {
        Card returned = existingCard(card);
        if (returned.isSettled()) {
            throw new IllegalStateException("the card is replaced or refunded");
        }
        history.record(now);
        return now.payBack(returned);
    }

    public int share(int card, int partner) throws IndexOutOfBoundsException {
        Card shared = existingCard(card);
        requirePartner(partner);
        shares.divide(shared);
        return shares.partOf(partner);
    }

    public int partner(int partner, int what) throws IndexOutOfBoundsException, IllegalArgumentException {
        requirePartner(partner);
        switch (what) {
            case 0:
                return sharesOf(partner);
            case 1:
                return now.ridesAt(partner);
            case 2:
                return now.gatesOf(partner);
            case 3:
                return now.cardsSeenBy(partner);
            default:
                throw new IllegalArgumentException("a partner has no such number");
        }
    }

    public int account(int what) throws IllegalArgumentException {
        switch (what) {
            case 0:
                return now.allPrices();
            case 1:
                return now.allRefunds();
            case 2:
                return allShares();
            case 3:
                return now.allIdle();
            case 4:
                return now.allRefundable();
            default:
                throw new IllegalArgumentException("there is no such account");
        }
    }

    public double meanRides() throws ArithmeticException {
        int cards = now.cardsInForce();
        if (cards <= 0) {
            throw new ArithmeticException("there are no cards that are not replaced");
        }
        return (double) now.ridesOnAllCards() / (double) cards;
    }

    public float closedShare(int gate) throws IndexOutOfBoundsException, ArithmeticException {
        Gate asked = existingGate(gate);
        int counted = now.countedSoFar();
        if (counted <= 0) {
            throw new ArithmeticException("no minute was counted");
        }
        return (float) now.closedOnAllDays(asked) / (float) counted;
    }

    public boolean isConsistent() {
        boolean moneyAgrees = now.allPrices() == now.allRefunds() + allShares() + now.allIdle();
        boolean ridesAgree = now.ridesThroughAllGates() == now.ridesOnAllCards();
        return moneyAgrees && ridesAgree && now.keepsAllWays();
    }

    // ---- texts

    public int append(int packed) throws IllegalArgumentException, IllegalStateException {
        int signs = 0;
        for (int shift = 24; shift >= 0; shift -= 8) {
            int sign = packed >>> shift & 255;
            if (sign != 0 && !isBetween(sign, 32, 126)) {
                throw new IllegalArgumentException("a character is out of range");
            }
            signs += sign != 0 ? 1 : 0;
        }
        if (text.length + signs > MOST_SIGNS) {
            throw new IllegalStateException("there is no room for the characters");
        }
        for (int shift = 24; shift >= 0; shift -= 8) {
            text.put(packed >>> shift & 255);
        }
        return text.length;
    }

    public int read() throws IllegalArgumentException, UnsupportedOperationException {
        int error = text.findError();
        if (error != NONE) {
            latestError = error;
            text.empty();
            throw new IllegalArgumentException("the text is malformed");
        }
        history.keep(now);
        int refused = firstRefusedOrder();
        text.empty();
        if (refused != NONE) {
            history.bringBack(now);
            latestRefused = refused;
            throw new UnsupportedOperationException("an order is refused");
        }
        history.commit();
        return text.orders;
    }

    public int errorPosition() throws NoSuchElementException {
        if (latestError == NONE) {
            throw new NoSuchElementException("no text was malformed");
        }
        return latestError;
    }

    public int refusedOrder() throws NoSuchElementException {
        if (latestRefused == NONE) {
            throw new NoSuchElementException("no text was refused");
        }
        return latestRefused;
    }

    // ---- undo and snapshot

    public int undo() throws IllegalStateException {
        if (history.changes <= 0) {
            throw new IllegalStateException("there is no change that can be undone");
        }
        history.stepBack(now);
        return history.changes;
    }

    public int snapshot() {
        kept.copyFrom(now);
        hasSnapshot = true;
        return kept.cardCount;
    }

    public int restore() throws IllegalStateException {
        if (!hasSnapshot) {
            throw new IllegalStateException("there is no snapshot");
        }
        now.copyFrom(kept);
        history.forget();
        return now.cardCount;
    }

    // ---- what the face stands on

    private static boolean isBetween(int number, int least, int most) {
        return number >= least && number <= most;
    }

    private static boolean isPartner(int partner) {
        return isBetween(partner, 0, PARTNERS - 1);
    }

    private static boolean isDay(int day) {
        return isBetween(day, 0, DAYS - 1);
    }

    private Gate existingGate(int number) {
        Gate found = now.gateAt(number);
        if (found == null) {
            throw new IndexOutOfBoundsException("there is no such gate");
        }
        return found;
    }

    private Product existingProduct(int number) {
        Product found = now.productAt(number);
        if (found == null) {
            throw new IndexOutOfBoundsException("there is no such product");
        }
        return found;
    }

    private Card existingCard(int number) {
        Card found = now.cardAt(number);
        if (found == null) {
            throw new IndexOutOfBoundsException("there is no such card");
        }
        return found;
    }

    private static void requirePartner(int partner) {
        if (!isPartner(partner)) {
            throw new IndexOutOfBoundsException("there is no such partner");
        }
    }

    /** A chain is 1, 11 for the gate; 1, 2, reason for the card; 1, 2, group, reason for the rest. */
    private static int numberInChain(int reason, int index) {
        int group = reason / 10;
        int last = Math.min(group, 3);
        if (index < 0 || index > last) {
            return NONE;
        }
        if (index == last) {
            return reason;
        }
        return index < 2 ? index + 1 : group;
    }

    private int sharesOf(int partner) {
        int sum = 0;
        for (Card card : now.cards) {
            if (card != null) {
                shares.divide(card);
                sum += shares.partOf(partner);
            }
        }
        return sum;
    }

    private int allShares() {
        int sum = 0;
        for (int partner = 0; partner < PARTNERS; partner++) {
            sum += sharesOf(partner);
        }
        return sum;
    }

    /** Carries out the orders of a well-formed text up to the first one that is refused, and tells its number. */
    private int firstRefusedOrder() {
        text.rewind();
        for (int order = 0; order < text.orders; order++) {
            if (!text.takeOrder() || !carriesOut(text.letter, text.number)) {
                return order;
            }
            text.skip(';');
        }
        return NONE;
    }

    private boolean carriesOut(char letter, int number) {
        switch (letter) {
            case 's':
                return orderSale(number, text.times);
            case 'b':
                return orderBlock(number, true);
            case 'u':
                return orderBlock(number, false);
            case 'r':
                return orderReplacement(number);
            case 'c':
                return orderClosing(number, true);
            case 'o':
                return orderClosing(number, false);
            case 'w':
                return orderWait(number);
            default:
                return false;
        }
    }

    private boolean orderSale(int product, int times) {
        Product sold = now.productAt(product);
        if (sold == null || !now.hasRoomForCards(times)) {
            return false;
        }
        now.insertCards(sold, times);
        return true;
    }

    private boolean orderBlock(int card, boolean on) {
        Card changed = now.cardAt(card);
        if (changed == null || changed.isSettled()) {
            return false;
        }
        now.setBlocked(changed, on);
        return true;
    }

    private boolean orderReplacement(int card) {
        Card old = now.cardAt(card);
        if (old == null || old.isSettled() || !now.hasRoomForCards(1)) {
            return false;
        }
        now.exchange(old);
        return true;
    }

    private boolean orderClosing(int gate, boolean on) {
        Gate moved = now.gateAt(gate);
        if (moved == null) {
            return false;
        }
        now.shut(moved, on);
        return true;
    }

    private boolean orderWait(int minutes) {
        if (minutes > MOST_ADVANCE || now.clock + minutes > LAST_CLOCK) {
            return false;
        }
        now.goOn(minutes);
        return true;
    }

    /** A gate never changes, so that all the states that know it can share it. */
    private static final class Gate {
        final int number;
        final int partner;
        final int position;

        Gate(int number, int partner, int position) {
            this.number = number;
            this.partner = partner;
            this.position = position;
        }

        int wayTo(Gate other) {
            int distance = Math.abs(position - other.position);
            return partner == other.partner ? distance : distance + WAY_TO_OTHER_PARTNER;
        }
    }

    /** A product never changes, so that all the states that know it can share it. */
    private static final class Product {
        final int number;
        final int kind;
        final int amount;
        final int first;
        final int last;
        final int partners;
        final int price;

        Product(int number, int kind, int amount, int first, int last, int partners, int price) {
            this.number = number;
            this.kind = kind;
            this.amount = amount;
            this.first = first;
            this.last = last;
            this.partners = partners;
            this.price = price;
        }

        boolean isFor(int partner) {
            return (partners >> partner & 1) == 1;
        }

        boolean isForHour(int hour) {
            return isBetween(hour, first, last);
        }

        int refundPerDay() {
            return kind == RIDES || amount <= 0 ? 0 : price / amount;
        }
    }

    /** A ride never changes; it knows what the rides on its card come to, up to itself. */
    private static final class Ride {
        final Ride before;
        final Gate gate;
        final int minute;
        final int count;
        final int days;

        Ride(Ride before, Gate gate, int minute) {
            int day = 1 << minute / MINUTES_OF_DAY;
            this.before = before;
            this.gate = gate;
            this.minute = minute;
            this.count = before == null ? 1 : before.count + 1;
            this.days = before == null ? day : before.days | day;
        }
    }

    /** A card as it stands; a change of it makes another Card, so that earlier states keep this one. */
    private static final class Card {
        final int number;
        final Product product;
        final int state;
        final int successor;
        final int refunded;
        final Ride latest;

        Card(int number, Product product, int state, int successor, int refunded, Ride latest) {
            this.number = number;
            this.product = product;
            this.state = state;
            this.successor = successor;
            this.refunded = refunded;
            this.latest = latest;
        }

        Card withRide(Ride ride) {
            return new Card(number, product, state, successor, refunded, ride);
        }

        Card withBlock(boolean on) {
            return new Card(number, product, on ? BLOCKED : USABLE, successor, refunded, latest);
        }

        Card replacedBy(int other) {
            return new Card(number, product, REPLACED, other, refunded, null);
        }

        Card paidBack(int amount) {
            return new Card(number, product, REFUNDED, successor, amount, latest);
        }

        boolean isSettled() {
            return state == REPLACED || state == REFUNDED;
        }

        int price() {
            return state == REPLACED ? 0 : product.price;
        }

        int rideCount() {
            return latest == null ? 0 : latest.count;
        }

        int dayMask() {
            return latest == null ? 0 : latest.days;
        }

        int daysSinceFirst(int day) {
            return latest == null ? 0 : day - Integer.numberOfTrailingZeros(latest.days);
        }

        Ride rideAt(int index) {
            for (Ride ride = latest; ride != null; ride = ride.before) {
                if (ride.count - 1 == index) {
                    return ride;
                }
            }
            return null;
        }

        int ridesThrough(Gate gate) {
            int rides = 0;
            for (Ride ride = latest; ride != null; ride = ride.before) {
                rides += ride.gate.number == gate.number ? 1 : 0;
            }
            return rides;
        }

        int ridesAt(int partner) {
            int rides = 0;
            for (Ride ride = latest; ride != null; ride = ride.before) {
                rides += ride.gate.partner == partner ? 1 : 0;
            }
            return rides;
        }

        boolean keepsWays() {
            for (Ride ride = latest; ride != null; ride = ride.before) {
                Ride before = ride.before;
                if (before != null && ride.minute - before.minute < before.gate.wayTo(ride.gate)) {
                    return false;
                }
            }
            return true;
        }

        boolean isValidForRideOn(int day) {
            switch (product.kind) {
                case FOLLOWING_DAYS:
                    return daysSinceFirst(day) < product.amount;
                case DAYS_WITH_RIDES:
                    return Integer.bitCount(dayMask() | 1 << day) <= product.amount;
                default:
                    return rideCount() < product.amount * RIDES_PER_AMOUNT;
            }
        }

        int leftOn(int day) {
            switch (product.kind) {
                case FOLLOWING_DAYS:
                    return Math.max(0, product.amount - daysSinceFirst(day));
                case DAYS_WITH_RIDES:
                    return product.amount - Integer.bitCount(dayMask());
                default:
                    return product.amount * RIDES_PER_AMOUNT - rideCount();
            }
        }
    }

    /** All that changes can change. Where a row holds null there is no such gate, product or card. */
    private static final class Resort {
        private final Gate[] gates = new Gate[MOST_GATES];
        private final Product[] products = new Product[MOST_PRODUCTS];
        private final Card[] cards = new Card[MOST_CARDS];
        private final int[] closed = new int[MOST_GATES * DAYS];
        private int gateCount = 0;
        private int productCount = 0;
        private int cardCount = 0;
        private int shutGates = 0;
        private int clock = FIRST_CLOCK;

        void empty() {
            for (int i = 0; i < gates.length; i++) {
                gates[i] = null;
            }
            for (int i = 0; i < products.length; i++) {
                products[i] = null;
            }
            for (int i = 0; i < cards.length; i++) {
                cards[i] = null;
            }
            Arrays.fill(closed, 0);
            gateCount = 0;
            productCount = 0;
            cardCount = 0;
            shutGates = 0;
            clock = FIRST_CLOCK;
        }

        void copyFrom(Resort other) {
            for (int i = 0; i < gates.length && i < other.gates.length; i++) {
                gates[i] = other.gates[i];
            }
            for (int i = 0; i < products.length && i < other.products.length; i++) {
                products[i] = other.products[i];
            }
            for (int i = 0; i < cards.length && i < other.cards.length; i++) {
                cards[i] = other.cards[i];
            }
            System.arraycopy(other.closed, 0, closed, 0, Math.min(other.closed.length, closed.length));
            gateCount = other.gateCount;
            productCount = other.productCount;
            cardCount = other.cardCount;
            shutGates = other.shutGates;
            clock = other.clock;
        }

        int today() {
            return clock / MINUTES_OF_DAY;
        }

        int hour() {
            return clock % MINUTES_OF_DAY / MINUTES_OF_HOUR;
        }

        Gate gateAt(int number) {
            return number >= 0 && number < gates.length ? gates[number] : null;
        }

        Product productAt(int number) {
            return number >= 0 && number < products.length ? products[number] : null;
        }

        Card cardAt(int number) {
            return number >= 0 && number < cards.length ? cards[number] : null;
        }

        int insertGate(Gate added) {
            if (gateCount >= 0 && gateCount < gates.length) {
                gates[gateCount] = added;
                gateCount++;
            }
            return added.number;
        }

        int insertProduct(Product added) {
            if (productCount >= 0 && productCount < products.length) {
                products[productCount] = added;
                productCount++;
            }
            return added.number;
        }

        boolean hasRoomForCards(int count) {
            return cardCount + count <= MOST_CARDS;
        }

        /** Returns the number of the first of the new cards. */
        int insertCards(Product product, int count) {
            int first = cardCount;
            for (int i = 0; i < count; i++) {
                insertCard(product, null);
            }
            return first;
        }

        private int insertCard(Product product, Ride latest) {
            Card added = new Card(cardCount, product, USABLE, NONE, 0, latest);
            putCard(added);
            cardCount++;
            return added.number;
        }

        private void putCard(Card card) {
            if (card.number >= 0 && card.number < cards.length) {
                cards[card.number] = card;
            }
        }

        void setBlocked(Card card, boolean on) {
            putCard(card.withBlock(on));
        }

        int exchange(Card old) {
            int successor = insertCard(old.product, old.latest);
            putCard(old.replacedBy(successor));
            return successor;
        }

        int payBack(Card card) {
            int amount = refundFor(card);
            putCard(card.paidBack(amount));
            return amount;
        }

        int addRide(Card card, Gate gate) {
            Ride ride = new Ride(card.latest, gate, clock);
            putCard(card.withRide(ride));
            return ride.count;
        }

        int lastSuccessor(Card card) {
            int last = card.number;
            for (int i = 0; i < MOST_CARDS; i++) {
                Card link = cardAt(last);
                if (link == null || link.successor == NONE) {
                    return last;
                }
                last = link.successor;
            }
            return last;
        }

        boolean isShut(Gate gate) {
            return (shutGates >> gate.number & 1) == 1;
        }

        void shut(Gate gate, boolean on) {
            int bit = 1 << gate.number;
            shutGates = on ? shutGates | bit : shutGates & ~bit;
        }

        void goOn(int minutes) {
            int end = clock + minutes;
            for (Gate gate : gates) {
                if (gate != null && isShut(gate)) {
                    countClosed(gate, clock, end);
                }
            }
            clock = end;
        }

        private void countClosed(Gate gate, int from, int to) {
            for (int day = 0; day < DAYS; day++) {
                int cell = gate.number * DAYS + day;
                if (cell >= 0 && cell < closed.length) {
                    closed[cell] += countedBetween(from, to, day);
                }
            }
        }

        /** How many minutes of a day from the first one up to, but without, the second one are counted. */
        private static int countedBetween(int from, int to, int day) {
            int begin = Math.max(from, day * MINUTES_OF_DAY + COUNTED_FROM);
            int end = Math.min(to, day * MINUTES_OF_DAY + COUNTED_TO);
            return Math.max(0, end - begin);
        }

        int countedSoFar() {
            int sum = 0;
            for (int day = 0; day < DAYS; day++) {
                sum += countedBetween(0, clock, day);
            }
            return sum;
        }

        int closedOn(Gate gate, int day) {
            int cell = gate.number * DAYS + day;
            return cell >= 0 && cell < closed.length ? closed[cell] : 0;
        }

        int closedOnAllDays(Gate gate) {
            int sum = 0;
            for (int day = 0; day < DAYS; day++) {
                sum += closedOn(gate, day);
            }
            return sum;
        }

        boolean isClosedFor(Product product, int day) {
            int count = 0;
            int minutes = 0;
            for (Gate gate : gates) {
                if (gate != null && product.isFor(gate.partner)) {
                    count++;
                    minutes += closedOn(gate, day);
                }
            }
            return count > 0 && 2 * minutes >= COUNTED_PER_DAY * count;
        }

        int reasonAgainst(Card card, Gate gate) {
            if (isShut(gate)) {
                return GATE_CLOSED;
            }
            if (card.state != USABLE) {
                return BEFORE_STATES + card.state;
            }
            if (!card.product.isFor(gate.partner)) {
                return WRONG_PARTNER;
            }
            if (!card.product.isForHour(hour())) {
                return WRONG_HOUR;
            }
            if (!card.isValidForRideOn(today())) {
                return NOT_VALID;
            }
            return reasonOfWay(card.latest, gate);
        }

        private int reasonOfWay(Ride latest, Gate gate) {
            if (latest == null) {
                return NO_REASON;
            }
            int wentBy = clock - latest.minute;
            if (wentBy < latest.gate.wayTo(gate)) {
                return WAY_TOO_LONG;
            }
            boolean isSameGate = latest.gate.number == gate.number;
            return isSameGate && wentBy < MINUTES_TO_SAME_GATE ? SAME_GATE_TOO_SOON : NO_REASON;
        }

        int gatesThatLetPass(Card card) {
            int mask = 0;
            for (Gate gate : gates) {
                if (gate != null && reasonAgainst(card, gate) == NO_REASON) {
                    mask |= 1 << gate.number;
                }
            }
            return mask;
        }

        int gatesFor(Product product) {
            int mask = 0;
            for (Gate gate : gates) {
                if (gate != null && product.isFor(gate.partner)) {
                    mask |= 1 << gate.number;
                }
            }
            return mask;
        }

        int gatesOf(int partner) {
            int count = 0;
            for (Gate gate : gates) {
                count += gate != null && gate.partner == partner ? 1 : 0;
            }
            return count;
        }

        int cardsWith(Product product) {
            int count = 0;
            for (Card card : cards) {
                if (card != null && card.state != REPLACED && card.product.number == product.number) {
                    count++;
                }
            }
            return count;
        }

        int cardsInForce() {
            int count = 0;
            for (Card card : cards) {
                count += card != null && card.state != REPLACED ? 1 : 0;
            }
            return count;
        }

        int cardsSeenBy(int partner) {
            int count = 0;
            for (Card card : cards) {
                count += card != null && card.ridesAt(partner) > 0 ? 1 : 0;
            }
            return count;
        }

        int ridesOnAllCards() {
            int sum = 0;
            for (Card card : cards) {
                sum += card == null ? 0 : card.rideCount();
            }
            return sum;
        }

        int ridesThrough(Gate gate) {
            int sum = 0;
            for (Card card : cards) {
                sum += card == null ? 0 : card.ridesThrough(gate);
            }
            return sum;
        }

        int ridesThroughAllGates() {
            int sum = 0;
            for (Gate gate : gates) {
                sum += gate == null ? 0 : ridesThrough(gate);
            }
            return sum;
        }

        int ridesAt(int partner) {
            int sum = 0;
            for (Card card : cards) {
                sum += card == null ? 0 : card.ridesAt(partner);
            }
            return sum;
        }

        boolean keepsAllWays() {
            for (Card card : cards) {
                if (card != null && !card.keepsWays()) {
                    return false;
                }
            }
            return true;
        }

        int refundFor(Card card) {
            return card.isSettled() ? 0 : card.product.refundPerDay() * closedDaysOf(card);
        }

        private int closedDaysOf(Card card) {
            int count = 0;
            for (int day = 0; day < DAYS; day++) {
                boolean hasRides = (card.dayMask() >> day & 1) == 1;
                count += hasRides && isClosedFor(card.product, day) ? 1 : 0;
            }
            return count;
        }

        int allPrices() {
            int sum = 0;
            for (Card card : cards) {
                sum += card == null ? 0 : card.price();
            }
            return sum;
        }

        int allRefunds() {
            int sum = 0;
            for (Card card : cards) {
                sum += card == null ? 0 : card.refunded;
            }
            return sum;
        }

        int allIdle() {
            int sum = 0;
            for (Card card : cards) {
                sum += card == null || card.rideCount() > 0 ? 0 : card.price() - card.refunded;
            }
            return sum;
        }

        int allRefundable() {
            int sum = 0;
            for (Card card : cards) {
                sum += card == null ? 0 : refundFor(card);
            }
            return sum;
        }
    }

    /** The states before the latest changes, in a ring that has one more place for a change that may yet fail. */
    private static final class History {
        private final Resort[] places = new Resort[MOST_CHANGES + 1];
        private int next = 0;
        private int changes = 0;

        History() {
            for (int i = 0; i < places.length; i++) {
                places[i] = new Resort();
            }
        }

        void record(Resort resort) {
            keep(resort);
            commit();
        }

        /** Keeps the state before a change that counts only with commit. */
        void keep(Resort resort) {
            Resort place = nextPlace();
            if (place != null) {
                place.copyFrom(resort);
            }
        }

        void commit() {
            next = next + 1 < places.length ? next + 1 : 0;
            changes = Math.min(changes + 1, MOST_CHANGES);
        }

        void bringBack(Resort resort) {
            Resort place = nextPlace();
            if (place != null) {
                resort.copyFrom(place);
            }
        }

        void stepBack(Resort resort) {
            next = next > 0 ? next - 1 : places.length - 1;
            changes = Math.max(changes - 1, 0);
            bringBack(resort);
        }

        void forget() {
            changes = 0;
        }

        private Resort nextPlace() {
            return next >= 0 && next < places.length ? places[next] : null;
        }
    }

    /** The input buffer, and a reader that stands at a position in it. */
    private static final class Text {
        private final char[] signs = new char[MOST_SIGNS];
        private int length = 0;
        private int position = 0;
        private int orders = 0;
        private char letter = ' ';
        private int number = 0;
        private int times = 0;

        void empty() {
            length = 0;
        }

        void put(int sign) {
            if (sign != 0 && length >= 0 && length < signs.length) {
                signs[length] = (char) sign;
                length++;
            }
        }

        void rewind() {
            position = 0;
        }

        /**
         * Counts the orders; the form never needs a second look, so that the reader stops at the first
         * character that no text can have there.
         */
        int findError() {
            rewind();
            orders = 0;
            for (int i = 0; i < MOST_SIGNS; i++) {
                if (!takeOrder()) {
                    return position;
                }
                orders++;
                if (!skip(';')) {
                    return position < length ? position : NONE;
                }
            }
            return position;
        }

        boolean takeOrder() {
            letter = sign();
            switch (letter) {
                case 's':
                    position++;
                    return takeSale();
                case 'b':
                case 'u':
                case 'r':
                case 'c':
                case 'o':
                case 'w':
                    position++;
                    return takeNumber();
                default:
                    return false;
            }
        }

        boolean skip(char sign) {
            boolean isThere = sign() == sign;
            position += isThere ? 1 : 0;
            return isThere;
        }

        private boolean takeSale() {
            number = 0;
            times = 1;
            if (!takeDigit()) {
                return false;
            }
            int product = number;
            if (skip('*')) {
                number = 0;
                if (!takeDigit()) {
                    return false;
                }
                times = number;
                number = product;
            }
            return true;
        }

        private boolean takeNumber() {
            number = 0;
            if (!takeDigit()) {
                return false;
            }
            for (int digits = 1; digits < 4 && number > 0; digits++) {
                if (!takeDigit()) {
                    return true;
                }
            }
            return true;
        }

        private boolean takeDigit() {
            char digit = sign();
            if (digit < '0' || digit > '9') {
                return false;
            }
            number = number * 10 + digit - '0';
            position++;
            return true;
        }

        /** The sign at the position, or 0, which no text has, behind the end. */
        private char sign() {
            return position >= 0 && position < length && position < signs.length ? signs[position] : 0;
        }
    }

    /** The shares in the card that was divided last; one object is used again for all of them. */
    private static final class Shares {
        private final int[] parts = new int[PARTNERS];

        void divide(Card card) {
            int left = card.price() - card.refunded;
            int missing = left;
            int main = 0;
            int mostRides = 0;
            for (int partner = 0; partner < parts.length; partner++) {
                int rides = card.ridesAt(partner);
                if (rides > mostRides) {
                    mostRides = rides;
                    main = partner;
                }
                parts[partner] = partByRides(left, rides, card.rideCount());
                missing -= parts[partner];
            }
            if (mostRides > 0 && main < parts.length) {
                parts[main] += missing;
            }
        }

        int partOf(int partner) {
            return partner >= 0 && partner < parts.length ? parts[partner] : 0;
        }

        private static int partByRides(int amount, int rides, int allRides) {
            return allRides <= 0 ? 0 : amount * rides / allRides;
        }
    }
}
