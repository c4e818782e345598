import java.util.ArrayDeque;
import java.util.ArrayList;
import java.util.List;
import java.util.NoSuchElementException;
import java.util.TreeSet;
import java.util.regex.Pattern;

/**
 * The document once more, in the slowest and plainest way, to compare the program with: whole copies, a step for
 * each minute, regular expressions, and every number counted from the rides when it is asked for.
 */
final class NaiveSkiPasses {
    private static final Pattern ORDER = Pattern.compile("s[0-9](\\*[0-9])?|[burcow](0|[1-9][0-9]{0,3})");
    private static final Pattern TEXT = Pattern.compile("(" + ORDER + ")(;(" + ORDER + "))*");

    private static final class Card {
        int product;
        int state;
        int next = -1;
        int refunded;
        List<int[]> rides = new ArrayList<>();
    }

    private static final class World {
        int clock = 480;
        List<int[]> gates = new ArrayList<>();
        List<int[]> products = new ArrayList<>();
        List<Card> cards = new ArrayList<>();
        TreeSet<Integer> closed = new TreeSet<>();
        List<int[]> closedMinutes = new ArrayList<>();

        World copy() {
            World other = new World();
            other.clock = clock;
            other.gates.addAll(gates);
            other.products.addAll(products);
            other.closed.addAll(closed);
            other.closedMinutes.addAll(closedMinutes);
            for (Card card : cards) {
                Card twin = new Card();
                twin.product = card.product;
                twin.state = card.state;
                twin.next = card.next;
                twin.refunded = card.refunded;
                twin.rides.addAll(card.rides);
                other.cards.add(twin);
            }
            return other;
        }
    }

    private World w = new World();
    private World snap;
    private ArrayDeque<World> past = new ArrayDeque<>();
    private int lastReason;
    private String buffer = "";
    private Integer error;
    private Integer refused;

    private void changed(World before) {
        past.addLast(before);
        while (past.size() > 8) {
            past.removeFirst();
        }
    }

    private static void need(boolean good, RuntimeException otherwise) {
        if (!good) {
            throw otherwise;
        }
    }

    private static RuntimeException index() {
        return new IndexOutOfBoundsException("index");
    }

    private static RuntimeException argument() {
        return new IllegalArgumentException("argument");
    }

    private static RuntimeException state() {
        return new IllegalStateException("state");
    }

    private void needGate(int gate) {
        need(gate >= 0 && gate < w.gates.size(), index());
    }

    private void needProduct(int product) {
        need(product >= 0 && product < w.products.size(), index());
    }

    private void needCard(int card) {
        need(card >= 0 && card < w.cards.size(), index());
    }

    private void needWhat(int what, int most) {
        need(what >= 0 && what <= most, argument());
    }

    public int clear() {
        int cards = w.cards.size();
        w = new World();
        past.clear();
        lastReason = 0;
        return cards;
    }

    public int addGate(int partner, int position) {
        need(partner >= 0 && partner <= 3 && position >= 0 && position <= 99, argument());
        need(w.gates.size() < 12, state());
        changed(w.copy());
        w.gates.add(new int[] {partner, position});
        return w.gates.size() - 1;
    }

    public int addProduct(int kind, int amount, int first, int last, int partners, int price) {
        need(kind >= 0 && kind <= 2 && amount >= 1 && amount <= 9, argument());
        need(first >= 0 && first <= 23 && last >= 0 && last <= 23 && first <= last, argument());
        need(partners >= 1 && partners <= 15 && price >= 1 && price <= 9999, argument());
        need(w.products.size() < 8, state());
        changed(w.copy());
        w.products.add(new int[] {kind, amount, first, last, partners, price});
        return w.products.size() - 1;
    }

    public int gate(int gate, int what) {
        needGate(gate);
        needWhat(what, 5);
        if (what < 2) {
            return w.gates.get(gate)[what];
        }
        if (what == 2) {
            return w.closed.contains(gate) ? 1 : 0;
        }
        if (what == 3) {
            return (int) w.cards.stream().flatMap(c -> c.rides.stream()).filter(r -> r[0] == gate).count();
        }
        return (int) w.closedMinutes.stream()
                .filter(m -> m[0] == gate && (what == 5 || m[1] / 1440 == w.clock / 1440)).count();
    }

    private boolean isFor(int product, int gate) {
        return (w.products.get(product)[4] & 1 << w.gates.get(gate)[0]) != 0;
    }

    public int product(int product, int what) {
        needProduct(product);
        needWhat(what, 8);
        if (what < 6) {
            return w.products.get(product)[what];
        }
        if (what == 6) {
            int mask = 0;
            for (int gate = 0; gate < w.gates.size(); gate++) {
                mask += isFor(product, gate) ? 1 << gate : 0;
            }
            return mask;
        }
        int count = (int) w.cards.stream().filter(c -> c.state != 2 && c.product == product).count();
        return what == 7 ? count : count * w.products.get(product)[5];
    }

    public int way(int gate, int other) {
        needGate(gate);
        needGate(other);
        int[] a = w.gates.get(gate);
        int[] b = w.gates.get(other);
        return Math.abs(a[1] - b[1]) + (a[0] == b[0] ? 0 : 10);
    }

    public int advance(int minutes) {
        need(minutes >= 0 && minutes <= 2880, argument());
        need(w.clock + minutes <= 43200, state());
        changed(w.copy());
        for (int i = 0; i < minutes; i++) {
            int ofDay = w.clock % 1440;
            for (int gate : w.closed) {
                if (ofDay >= 480 && ofDay <= 959) {
                    w.closedMinutes.add(new int[] {gate, w.clock});
                }
            }
            w.clock++;
        }
        return w.clock;
    }

    public int system(int what) {
        needWhat(what, 9);
        int[] all = {w.clock, w.clock / 1440, w.clock % 1440 / 60, w.gates.size(), w.products.size(),
            w.cards.size(), w.cards.stream().mapToInt(c -> c.rides.size()).sum(),
            w.closed.stream().mapToInt(g -> 1 << g).sum(), buffer.length(), past.size()};
        return all[what];
    }

    public boolean setClosed(int gate, boolean on) {
        needGate(gate);
        changed(w.copy());
        boolean before = w.closed.contains(gate);
        if (on) {
            w.closed.add(gate);
        } else {
            w.closed.remove(gate);
        }
        return before;
    }

    public int closedMinutes(int gate, int day) {
        needGate(gate);
        need(day >= 0 && day <= 30, argument());
        return (int) w.closedMinutes.stream().filter(m -> m[0] == gate && m[1] / 1440 == day).count();
    }

    public boolean isClosedDay(int product, int day) {
        needProduct(product);
        need(day >= 0 && day <= 30, argument());
        long gates = 0;
        for (int gate = 0; gate < w.gates.size(); gate++) {
            gates += isFor(product, gate) ? 1 : 0;
        }
        long closed = w.closedMinutes.stream().filter(m -> m[1] / 1440 == day && isFor(product, m[0])).count();
        return gates > 0 && closed >= 480.0 * gates / 2;
    }

    public int sell(int product) {
        needProduct(product);
        need(w.cards.size() < 20, state());
        changed(w.copy());
        Card card = new Card();
        card.product = product;
        w.cards.add(card);
        return w.cards.size() - 1;
    }

    public int pass(int card, int gate) {
        int reason = reason(card, gate);
        if (reason != 0) {
            lastReason = reason;
            throw new UnsupportedOperationException("refused");
        }
        changed(w.copy());
        Card c = w.cards.get(card);
        c.rides.add(new int[] {gate, w.clock});
        return c.rides.size();
    }

    private static TreeSet<Integer> daysOf(Card card) {
        TreeSet<Integer> days = new TreeSet<>();
        for (int[] ride : card.rides) {
            days.add(ride[1] / 1440);
        }
        return days;
    }

    public int reason(int card, int gate) {
        needCard(card);
        needGate(gate);
        Card c = w.cards.get(card);
        int[] p = w.products.get(c.product);
        if (w.closed.contains(gate)) {
            return 11;
        }
        if (c.state == 1) {
            return 21;
        }
        if (c.state == 2) {
            return 22;
        }
        if (c.state == 3) {
            return 23;
        }
        if (!isFor(c.product, gate)) {
            return 31;
        }
        int hour = w.clock % 1440 / 60;
        if (hour < p[2] || hour > p[3]) {
            return 32;
        }
        TreeSet<Integer> days = daysOf(c);
        int today = w.clock / 1440;
        if (p[0] == 0 && !days.isEmpty() && today > days.first() + p[1] - 1) {
            return 33;
        }
        days.add(today);
        if (p[0] == 1 && days.size() > p[1] || p[0] == 2 && c.rides.size() + 1 > 10 * p[1]) {
            return 33;
        }
        if (!c.rides.isEmpty()) {
            int[] last = c.rides.get(c.rides.size() - 1);
            int minutes = w.clock - last[1];
            if (minutes < way(last[0], gate)) {
                return 41;
            }
            if (last[0] == gate && minutes < 5) {
                return 42;
            }
        }
        return 0;
    }

    public int openGates(int card) {
        needCard(card);
        int mask = 0;
        for (int gate = 0; gate < w.gates.size(); gate++) {
            mask += reason(card, gate) == 0 ? 1 << gate : 0;
        }
        return mask;
    }

    public int refusal(int index) {
        need(lastReason != 0, state());
        List<Integer> chain = new ArrayList<>(List.of(1));
        if (lastReason > 20) {
            chain.add(2);
        }
        if (lastReason > 30) {
            chain.add(lastReason > 40 ? 4 : 3);
        }
        chain.add(lastReason);
        need(index >= 0 && index < chain.size(), new NoSuchElementException("no"));
        return chain.get(index);
    }

    public int block(int card, boolean on) {
        needCard(card);
        Card c = w.cards.get(card);
        need(c.state < 2, state());
        changed(w.copy());
        int before = c.state;
        c.state = on ? 1 : 0;
        return before;
    }

    public int replace(int card) {
        needCard(card);
        need(w.cards.get(card).state < 2 && w.cards.size() < 20, state());
        changed(w.copy());
        Card old = w.cards.get(card);
        Card fresh = new Card();
        fresh.product = old.product;
        fresh.rides = old.rides;
        old.rides = new ArrayList<>();
        old.state = 2;
        old.next = w.cards.size();
        w.cards.add(fresh);
        return old.next;
    }

    private int price(Card card) {
        return card.state == 2 ? 0 : w.products.get(card.product)[5];
    }

    public int card(int card, int what) {
        needCard(card);
        needWhat(what, 8);
        Card c = w.cards.get(card);
        int last = card;
        while (w.cards.get(last).next != -1) {
            last = w.cards.get(last).next;
        }
        int[] p = w.products.get(w.cards.get(last).product);
        TreeSet<Integer> days = daysOf(c);
        int[] left = {days.isEmpty() ? p[1] : Math.max(0, p[1] - (w.clock / 1440 - days.first())),
            p[1] - days.size(), 10 * p[1] - c.rides.size()};
        int[] all = {w.cards.get(last).product, c.state, c.rides.size(), days.size(), c.next, last, price(c),
            c.refunded, left[p[0]]};
        return all[what];
    }

    public int ride(int card, int index, boolean isGate) {
        needCard(card);
        List<int[]> rides = w.cards.get(card).rides;
        need(index >= 0 && index < rides.size(), new NoSuchElementException("no"));
        return rides.get(index)[isGate ? 0 : 1];
    }

    public int refundable(int card) {
        needCard(card);
        Card c = w.cards.get(card);
        int[] p = w.products.get(c.product);
        if (c.state >= 2 || p[0] == 2) {
            return 0;
        }
        int closed = (int) daysOf(c).stream().filter(day -> isClosedDay(c.product, day)).count();
        return p[5] / p[1] * closed;
    }

    public int refund(int card) {
        needCard(card);
        need(w.cards.get(card).state < 2, state());
        int amount = refundable(card);
        changed(w.copy());
        w.cards.get(card).refunded = amount;
        w.cards.get(card).state = 3;
        return amount;
    }

    public int share(int card, int partner) {
        needCard(card);
        need(partner >= 0 && partner <= 3, index());
        Card c = w.cards.get(card);
        if (c.rides.isEmpty()) {
            return 0;
        }
        int left = price(c) - c.refunded;
        int[] count = new int[4];
        for (int[] ride : c.rides) {
            count[w.gates.get(ride[0])[0]]++;
        }
        int best = 3;
        int shared = 0;
        for (int i = 3; i >= 0; i--) {
            best = count[i] >= count[best] ? i : best;
            shared += left * count[i] / c.rides.size();
        }
        return left * count[partner] / c.rides.size() + (partner == best ? left - shared : 0);
    }

    public int partner(int partner, int what) {
        need(partner >= 0 && partner <= 3, index());
        needWhat(what, 3);
        int[] sums = new int[4];
        for (int card = 0; card < w.cards.size(); card++) {
            int here = (int) w.cards.get(card).rides.stream().filter(r -> w.gates.get(r[0])[0] == partner).count();
            sums[0] += share(card, partner);
            sums[1] += here;
            sums[3] += here > 0 ? 1 : 0;
        }
        sums[2] = (int) w.gates.stream().filter(g -> g[0] == partner).count();
        return sums[what];
    }

    public int account(int what) {
        needWhat(what, 4);
        int[] sums = new int[5];
        for (int card = 0; card < w.cards.size(); card++) {
            Card c = w.cards.get(card);
            sums[0] += price(c);
            sums[1] += c.refunded;
            sums[2] += share(card, 0) + share(card, 1) + share(card, 2) + share(card, 3);
            sums[3] += c.rides.isEmpty() ? price(c) - c.refunded : 0;
            sums[4] += refundable(card);
        }
        return sums[what];
    }

    public double meanRides() {
        int cards = (int) w.cards.stream().filter(c -> c.state != 2).count();
        need(cards > 0, new ArithmeticException("no"));
        return (double) system(6) / cards;
    }

    public float closedShare(int gate) {
        needGate(gate);
        int counted = 0;
        for (int minute = 0; minute < w.clock; minute++) {
            counted += minute % 1440 >= 480 && minute % 1440 <= 959 ? 1 : 0;
        }
        need(counted > 0, new ArithmeticException("no"));
        return (float) gate(gate, 5) / counted;
    }

    public boolean isConsistent() {
        return true;
    }

    public int append(int packed) {
        StringBuilder more = new StringBuilder();
        for (byte b : new byte[] {(byte) (packed >> 24), (byte) (packed >> 16), (byte) (packed >> 8), (byte) packed}) {
            if (b != 0) {
                need(b >= 32 && b <= 126, argument());
                more.append((char) b);
            }
        }
        need(buffer.length() + more.length() <= 60, state());
        buffer += more;
        return buffer.length();
    }

    private static boolean canGoOn(String prefix) {
        for (String end : new String[] {"", "0", "s0"}) {
            if (TEXT.matcher(prefix + end).matches()) {
                return true;
            }
        }
        return false;
    }

    public int read() {
        String text = buffer;
        buffer = "";
        if (!TEXT.matcher(text).matches()) {
            int position = 0;
            while (position < text.length() && canGoOn(text.substring(0, position + 1))) {
                position++;
            }
            error = position;
            throw argument();
        }
        World before = w.copy();
        ArrayDeque<World> pastBefore = new ArrayDeque<>(past);
        String[] orders = text.split(";");
        for (int i = 0; i < orders.length; i++) {
            try {
                carryOut(orders[i]);
            } catch (RuntimeException e) {
                w = before;
                past = pastBefore;
                refused = i;
                throw new UnsupportedOperationException("refused");
            }
        }
        past = pastBefore;
        changed(before);
        return orders.length;
    }

    private void carryOut(String order) {
        String[] parts = order.substring(1).split("\\*");
        int number = Integer.parseInt(parts[0]);
        switch (order.charAt(0)) {
            case 's':
                needProduct(number);
                for (int i = 0; i < (parts.length == 2 ? Integer.parseInt(parts[1]) : 1); i++) {
                    sell(number);
                }
                break;
            case 'b':
                block(number, true);
                break;
            case 'u':
                block(number, false);
                break;
            case 'r':
                replace(number);
                break;
            case 'c':
                setClosed(number, true);
                break;
            case 'o':
                setClosed(number, false);
                break;
            default:
                advance(number);
        }
    }

    public int errorPosition() {
        need(error != null, new NoSuchElementException("no"));
        return error;
    }

    public int refusedOrder() {
        need(refused != null, new NoSuchElementException("no"));
        return refused;
    }

    public int undo() {
        need(!past.isEmpty(), state());
        w = past.removeLast();
        return past.size();
    }

    public int snapshot() {
        snap = w.copy();
        return snap.cards.size();
    }

    public int restore() {
        need(snap != null, state());
        w = snap.copy();
        past.clear();
        return w.cards.size();
    }
}
