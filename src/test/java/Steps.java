import java.util.NoSuchElementException;

/** Steps that the tests have in common. */
abstract class Steps {
    static final Class<IllegalArgumentException> ARGUMENT = IllegalArgumentException.class;
    static final Class<IllegalStateException> STATE = IllegalStateException.class;
    static final Class<IndexOutOfBoundsException> INDEX = IndexOutOfBoundsException.class;
    static final Class<UnsupportedOperationException> UNSUPPORTED = UnsupportedOperationException.class;
    static final Class<NoSuchElementException> ELEMENT = NoSuchElementException.class;
    static final Class<ArithmeticException> ARITHMETIC = ArithmeticException.class;
    static final int[] OUTSIDE = {-1, Integer.MIN_VALUE, Integer.MAX_VALUE, 1 << 16, -65536};

    /** Appends a text, four characters at a time. */
    static void write(SkiPasses x, String text) {
        for (int i = 0; i < text.length(); i += 4) {
            int packed = 0;
            for (int j = i; j < i + 4 && j < text.length(); j++) {
                packed = packed << 8 | text.charAt(j);
            }
            x.append(packed);
        }
    }

    static Object read(SkiPasses x, String text) {
        write(x, text);
        return Check.outcome(() -> x.read());
    }

    static void wait(SkiPasses x, int minutes) {
        int left = minutes;
        while (left > 2880) {
            x.advance(2880);
            left -= 2880;
        }
        x.advance(left);
    }

    /** Lets the clock go on to a minute of a day. */
    static void goTo(SkiPasses x, int day, int minute) {
        wait(x, day * 1440 + minute - x.system(0));
    }

    /** A system with gates, told by partner and position in turn. */
    static SkiPasses gates(int... partnersAndPositions) {
        SkiPasses x = new SkiPasses();
        for (int i = 0; i + 1 < partnersAndPositions.length; i += 2) {
            x.addGate(partnersAndPositions[i], partnersAndPositions[i + 1]);
        }
        return x;
    }

    /** Adds a product of a kind that is valid at all hours at the gates of all partners. */
    static int addProduct(SkiPasses x, int kind, int amount, int price) {
        return x.addProduct(kind, amount, 0, 23, 15, price);
    }

    /** Sells cards, one of each of these products. */
    static void sell(SkiPasses x, int... products) {
        for (int product : products) {
            x.sell(product);
        }
    }

    /** Closes gates for some minutes, and opens them then. */
    static void closeFor(SkiPasses x, int minutes, int... gates) {
        for (int gate : gates) {
            x.setClosed(gate, true);
        }
        wait(x, minutes);
        for (int gate : gates) {
            x.setClosed(gate, false);
        }
    }

    /** Rides at these gates, each late enough for any way. */
    static void rides(SkiPasses x, int card, int... gates) {
        for (int gate : gates) {
            x.advance(109);
            x.pass(card, gate);
        }
    }
}
