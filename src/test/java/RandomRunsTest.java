import java.lang.reflect.InvocationTargetException;
import java.lang.reflect.Method;
import java.util.List;
import java.util.Random;

/** Runs of random calls, on the program and on the naive one side by side; the seeds are fixed. */
public final class RandomRunsTest {
    private static final int RUNS = 600;
    private static final int CALLS = 511;
    private static final String[] CHANGES = {"addGate", "addProduct", "sell", "sell", "pass", "pass", "pass", "pass",
        "pass", "pass", "advance", "advance", "advance", "setClosed", "block", "replace", "refund", "order", "order",
        "undo"};
    private static final String[] QUESTIONS = {"gate", "product", "way", "system", "closedMinutes", "isClosedDay",
        "reason", "openGates", "refusal", "card", "card", "ride", "refundable", "refundable", "share", "share",
        "partner", "account", "meanRides", "closedShare", "isConsistent", "errorPosition", "refusedOrder"};
    private static final int[] PACES = {0, 1, 3, 5, 8, 10, 12, 20, 40, 59, 60, 61, 120, 200, 240, 300, 480, 720, 960,
        1440, 1500, 2000, 2880};

    private final Random random;
    private final SkiPasses program = new SkiPasses();
    private final NaiveSkiPasses naive = new NaiveSkiPasses();
    private final Check check;
    private int calls = 0;
    private final boolean isCalm;
    private final boolean isStormy;
    private final int eagerness;

    private RandomRunsTest(int seed, Check check) {
        this.random = new Random(seed);
        this.check = check;
        this.isCalm = random.nextInt(4) > 0;
        this.isStormy = random.nextBoolean();
        this.eagerness = random.nextInt(4);
    }

    public static void main(String[] args) {
        Check check = new Check("RandomRunsTest");
        for (int seed = 0; seed < RUNS; seed++) {
            check.begin("seed " + seed);
            new RandomRunsTest(seed, check).run();
        }
        check.end();
    }

    private void run() {
        begin();
        while (calls < CALLS) {
            String name = next();
            if (name.equals("order")) {
                order();
            } else if (isStormy && random.nextInt(40) == 0) {
                storm();
            } else if (!same(name, arguments(name))) {
                return;
            }
        }
    }

    private void begin() {
        for (int i = random.nextInt(isStormy ? 3 : 6); i >= 0; i--) {
            same("addGate", arguments("addGate"));
        }
        for (int i = random.nextInt(4); i >= 0; i--) {
            same("addProduct", arguments("addProduct"));
        }
        for (int i = random.nextInt(4); i >= 0; i--) {
            same("sell", random.nextInt(2));
        }
    }

    private String next() {
        int dice = random.nextInt(100);
        if (dice == 0) {
            return isCalm ? "isConsistent" : "clear";
        }
        if (dice == 1) {
            return "snapshot";
        }
        if (dice == 2) {
            return isCalm && random.nextBoolean() ? "system" : "restore";
        }
        boolean isChange = dice < 35 + 15 * eagerness;
        String name = isChange ? pick(CHANGES) : pick(QUESTIONS);
        boolean isEnd = name.equals("refund") || name.equals("replace");
        return isEnd && random.nextInt(3) > 0 ? "pass" : name;
    }

    private String pick(String[] names) {
        return names[random.nextInt(names.length)];
    }

    /** Mostly a number that is in range, sometimes one beside or far from it. */
    private int upTo(int most) {
        int dice = random.nextInt(isCalm ? 60 : 20);
        if (dice == 0) {
            return random.nextBoolean() ? -1 : most + 1;
        }
        if (dice == 1) {
            return random.nextBoolean() ? random.nextInt() : Integer.MIN_VALUE >> random.nextInt(32);
        }
        return random.nextInt(most + 1);
    }

    private int aGate() {
        return upTo(Math.max(0, program.system(3) - 1));
    }

    private int aProduct() {
        return upTo(Math.max(0, program.system(4) - 1));
    }

    private int aCard() {
        return upTo(Math.max(0, program.system(5) - 1));
    }

    private Object[] arguments(String name) {
        switch (name) {
            case "addGate":
                return new Object[] {upTo(3), random.nextBoolean() ? random.nextInt(12) : upTo(99)};
            case "addProduct":
                int first = random.nextInt(3) == 0 ? upTo(23) : 0;
                int last = random.nextInt(3) == 0 ? upTo(23) : 23;
                int partners = random.nextInt(3) == 0 ? upTo(14) + 1 : 15;
                return new Object[] {upTo(2), upTo(8) + 1, first, last, partners, upTo(9998) + 1};
            case "gate":
                return new Object[] {aGate(), upTo(5)};
            case "product":
                return new Object[] {aProduct(), upTo(8)};
            case "way":
                return new Object[] {aGate(), aGate()};
            case "advance":
                return new Object[] {random.nextInt(30) == 0 ? upTo(2880) : aPace()};
            case "system":
                return new Object[] {upTo(9)};
            case "setClosed":
                return new Object[] {aGate(), random.nextInt(isStormy ? 2 : 4) == 0};
            case "closedMinutes":
                return new Object[] {aGate(), aDay()};
            case "isClosedDay":
                return new Object[] {aProduct(), aDay()};
            case "sell":
                return new Object[] {aProduct()};
            case "pass":
            case "reason":
                int card = aCard();
                return new Object[] {card, random.nextInt(3) > 0 ? anOpenGate(card) : aGate()};
            case "refusal":
                return new Object[] {upTo(3)};
            case "block":
                return new Object[] {aCard(), random.nextInt(3) == 0};
            case "card":
                return new Object[] {aCard(), upTo(8)};
            case "ride":
                return new Object[] {aCard(), upTo(4), random.nextBoolean()};
            case "openGates":
            case "replace":
            case "refundable":
            case "refund":
                return new Object[] {aCard()};
            case "share":
                return new Object[] {aCard(), upTo(3)};
            case "partner":
                return new Object[] {upTo(3), upTo(3)};
            case "account":
                return new Object[] {upTo(4)};
            case "closedShare":
                return new Object[] {aGate()};
            default:
                return new Object[0];
        }
    }

    private int anOpenGate(int card) {
        int cards = program.system(5);
        int open = card >= 0 && card < cards ? program.openGates(card) : 0;
        for (int i = 0; i < 12 && open != 0; i++) {
            int gate = random.nextInt(12);
            if ((open >> gate & 1) == 1) {
                return gate;
            }
        }
        return aGate();
    }

    private int aPace() {
        return PACES[random.nextInt(random.nextInt(8) == 0 ? PACES.length : PACES.length - 7)];
    }

    private int aDay() {
        return random.nextInt(3) == 0 ? upTo(30) : program.system(1);
    }

    /** Rides in the morning, then hours in which most gates are closed, and what is paid back for them. */
    private void storm() {
        same("advance", Math.floorMod(480 - program.system(0), 1440));
        for (int i = 0; i < 6; i++) {
            same("pass", arguments("pass"));
        }
        int gates = program.system(3);
        for (int gate = 0; gate < gates; gate++) {
            same("setClosed", gate, random.nextInt(3) > 0);
        }
        same("advance", random.nextInt(3) == 0 ? 240 : 200 + random.nextInt(400));
        for (int card = 0; card < program.system(5); card++) {
            same("refundable", card);
        }
        same("account", 4);
        same(pick(new String[] {"refund", "replace", "refundable"}), aCard());
        for (int gate = 0; gate < gates; gate++) {
            same("setClosed", gate, false);
        }
    }

    /** Writes a text of orders, mostly well-formed, and reads it. */
    private void order() {
        StringBuilder text = new StringBuilder();
        int orders = 1 + random.nextInt(random.nextInt(8) == 0 ? 20 : 4);
        for (int i = 0; i < orders; i++) {
            text.append(i == 0 ? "" : ";").append(anOrder());
        }
        if (random.nextInt(6) == 0) {
            spoil(text);
        }
        for (int i = 0; i < text.length(); i += 4) {
            int packed = 0;
            for (int j = i; j < i + 4 && j < text.length(); j++) {
                packed = packed << 8 | text.charAt(j);
            }
            same("append", packed);
        }
        if (random.nextInt(10) == 0) {
            same("append", random.nextInt());
        }
        same("read");
        if (random.nextInt(3) == 0) {
            same("errorPosition");
            same("refusedOrder");
        }
    }

    private String anOrder() {
        switch (random.nextInt(8)) {
            case 0:
                return "s" + Math.floorMod(aProduct(), 10);
            case 1:
                return "s" + Math.floorMod(aProduct(), 10) + "*" + random.nextInt(random.nextInt(4) == 0 ? 10 : 3);
            case 2:
                return "b" + Math.floorMod(aCard(), 10000);
            case 3:
                return "u" + Math.floorMod(aCard(), 10000);
            case 4:
                return "r" + Math.floorMod(aCard(), 10000);
            case 5:
                return "c" + Math.floorMod(aGate(), 10000);
            case 6:
                return "o" + Math.floorMod(aGate(), 10000);
            default:
                return "w" + (random.nextInt(20) == 0 ? random.nextInt(10000) : aPace());
        }
    }

    private void spoil(StringBuilder text) {
        int place = random.nextInt(text.length());
        char sign = "s*;burcow0123456789 ~".charAt(random.nextInt(21));
        int way = random.nextInt(3);
        if (way == 0) {
            text.setCharAt(place, sign);
        } else if (way == 1) {
            text.insert(place, sign);
        } else {
            text.setLength(place);
        }
    }

    private boolean same(String name, Object... arguments) {
        Object want = answer(naive, name, arguments);
        Object got = answer(program, name, arguments);
        calls++;
        check.due(name + List.of(arguments) + " " + want, name + List.of(arguments) + " " + got);
        return want.equals(got);
    }

    private static Object answer(Object target, String name, Object[] arguments) {
        try {
            return methodOf(target, name).invoke(target, arguments);
        } catch (InvocationTargetException e) {
            return e.getCause().getClass().getSimpleName();
        } catch (IllegalAccessException e) {
            throw new AssertionError(e);
        }
    }

    private static Method methodOf(Object target, String name) {
        for (Method method : target.getClass().getDeclaredMethods()) {
            if (method.getName().equals(name)) {
                method.setAccessible(true);
                return method;
            }
        }
        throw new AssertionError(name);
    }
}
