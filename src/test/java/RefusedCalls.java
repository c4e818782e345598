import java.util.ArrayList;
import java.util.List;
import java.util.function.Function;
import java.util.function.Supplier;

/** Calls that throw, at objects that have something of everything, or are full, or are new. */
final class RefusedCalls extends Steps {
    /** A call at an object that was made by start; afterwards it must stand like one that was made by alike. */
    record Refused(String name, Supplier<SkiPasses> start, Supplier<SkiPasses> alike,
            Class<? extends RuntimeException> due, Function<SkiPasses, Object> call) {
    }

    private final List<Refused> all = new ArrayList<>();

    private void add(String name, Supplier<SkiPasses> start, Class<? extends RuntimeException> due,
            Function<SkiPasses, Object> call) {
        all.add(new Refused(name, start, start, due, call));
    }

    /** A text that is not carried out: rich has kept the same error position and refused order before. */
    private void addText(String text, Class<? extends RuntimeException> due) {
        Supplier<SkiPasses> start = () -> {
            SkiPasses x = rich();
            write(x, text);
            return x;
        };
        all.add(new Refused("read " + text, start, RefusedCalls::rich, due, x -> x.read()));
    }

    /** Gate 0 is closed; card 0 is usable, 1 blocked, 2 replaced by 4, 3 refunded; the latest refusal is 42. */
    static SkiPasses rich() {
        SkiPasses x = gates(0, 0, 0, 8, 1, 8);
        addProduct(x, 0, 2, 101);
        x.addProduct(1, 2, 8, 15, 3, 201);
        read(x, "s0;");
        read(x, "w0;s9");
        read(x, "s0*2;s1*2");
        for (int card = 0; card < 4; card++) {
            x.pass(card, 1);
        }
        Check.outcome(() -> x.pass(0, 1));
        x.snapshot();
        closeFor(x, 400, 0, 2);
        x.setClosed(0, true);
        x.block(1, true);
        x.replace(2);
        x.refund(3);
        x.advance(1);
        return x;
    }

    /** As rich, with a text in the buffer. */
    static SkiPasses richWithText() {
        SkiPasses x = rich();
        write(x, "w7;s0*2;o0");
        return x;
    }

    private static SkiPasses richWithFullBuffer() {
        SkiPasses x = rich();
        write(x, "w7;w7;w7;w7;w7;w7;w7;w7;w7;w7;w7;w7;w7;w7;w7;w7;w7;w7;w7;w7");
        return x;
    }

    /** As rich, with a ride in this minute; refusing one more keeps the refusal 42, which is kept already. */
    private static SkiPasses richWithRide() {
        SkiPasses x = rich();
        x.pass(0, 1);
        return x;
    }

    private static SkiPasses fullOfGates() {
        SkiPasses x = new SkiPasses();
        for (int gate = 0; gate < 12; gate++) {
            x.addGate(gate % 4, gate);
        }
        return x;
    }

    private static SkiPasses fullOfProducts() {
        SkiPasses x = new SkiPasses();
        for (int product = 0; product < 8; product++) {
            addProduct(x, product % 3, 1, 10);
        }
        return x;
    }

    /** And the clock is at its end. */
    private static SkiPasses fullOfCards() {
        SkiPasses x = gates(0, 0);
        addProduct(x, 1, 1, 10);
        goTo(x, 30, 0);
        read(x, "s0*9;s0*9;s0*2");
        return x;
    }

    /** Calls that throw, for each method and each exception that it names. */
    static List<Refused> refused() {
        RefusedCalls calls = new RefusedCalls();
        calls.addGatesAndProducts();
        calls.addTime();
        calls.addCards();
        calls.addMoney();
        calls.addTexts();
        calls.addUndo();
        return calls.all;
    }

    private void addGatesAndProducts() {
        add("addGate(4, 0)", RefusedCalls::rich, ARGUMENT, x -> x.addGate(4, 0));
        add("addGate(0, 100)", RefusedCalls::rich, ARGUMENT, x -> x.addGate(0, 100));
        add("addGate full", RefusedCalls::fullOfGates, STATE, x -> x.addGate(0, 0));
        add("addProduct(3, ..)", RefusedCalls::rich, ARGUMENT, x -> addProduct(x, 3, 1, 1));
        add("addProduct(.., 9, 8, ..)", RefusedCalls::rich, ARGUMENT, x -> x.addProduct(0, 1, 9, 8, 1, 1));
        add("addProduct full", RefusedCalls::fullOfProducts, STATE, x -> addProduct(x, 0, 1, 1));
        add("gate(3, 0)", RefusedCalls::rich, INDEX, x -> x.gate(3, 0));
        add("gate(0, 6)", RefusedCalls::rich, ARGUMENT, x -> x.gate(0, 6));
        add("product(2, 0)", RefusedCalls::rich, INDEX, x -> x.product(2, 0));
        add("product(0, 9)", RefusedCalls::rich, ARGUMENT, x -> x.product(0, 9));
        add("way(0, 3)", RefusedCalls::rich, INDEX, x -> x.way(0, 3));
    }

    private void addTime() {
        add("advance(-1)", RefusedCalls::rich, ARGUMENT, x -> x.advance(-1));
        add("advance(2881)", RefusedCalls::rich, ARGUMENT, x -> x.advance(2881));
        add("advance at the end", RefusedCalls::fullOfCards, STATE, x -> x.advance(1));
        add("system(10)", RefusedCalls::rich, ARGUMENT, x -> x.system(10));
        add("setClosed(3, true)", RefusedCalls::rich, INDEX, x -> x.setClosed(3, true));
        add("setClosed(-1, false)", RefusedCalls::rich, INDEX, x -> x.setClosed(-1, false));
        add("closedMinutes(3, 0)", RefusedCalls::rich, INDEX, x -> x.closedMinutes(3, 0));
        add("closedMinutes(0, 31)", RefusedCalls::rich, ARGUMENT, x -> x.closedMinutes(0, 31));
        add("isClosedDay(2, 0)", RefusedCalls::rich, INDEX, x -> x.isClosedDay(2, 0));
        add("isClosedDay(0, -1)", RefusedCalls::rich, ARGUMENT, x -> x.isClosedDay(0, -1));
        add("closedShare(3)", RefusedCalls::rich, INDEX, x -> x.closedShare(3));
        add("closedShare at first", () -> gates(0, 0), ARITHMETIC, x -> x.closedShare(0));
    }

    private void addCards() {
        add("sell(2)", RefusedCalls::rich, INDEX, x -> x.sell(2));
        add("sell full", RefusedCalls::fullOfCards, STATE, x -> x.sell(0));
        add("pass(5, 0)", RefusedCalls::rich, INDEX, x -> x.pass(5, 0));
        add("pass(0, 3)", RefusedCalls::rich, INDEX, x -> x.pass(0, 3));
        add("reason(5, 0)", RefusedCalls::rich, INDEX, x -> x.reason(5, 0));
        add("openGates(-1)", RefusedCalls::rich, INDEX, x -> x.openGates(-1));
        add("refusal at first", RefusedCalls::fullOfCards, STATE, x -> x.refusal(0));
        add("refusal(4)", RefusedCalls::rich, ELEMENT, x -> x.refusal(4));
        add("block(5, true)", RefusedCalls::rich, INDEX, x -> x.block(5, true));
        add("block(2, true)", RefusedCalls::rich, STATE, x -> x.block(2, true));
        add("block(3, false)", RefusedCalls::rich, STATE, x -> x.block(3, false));
        add("replace(5)", RefusedCalls::rich, INDEX, x -> x.replace(5));
        add("replace(2)", RefusedCalls::rich, STATE, x -> x.replace(2));
        add("replace(3)", RefusedCalls::rich, STATE, x -> x.replace(3));
        add("replace full", RefusedCalls::fullOfCards, STATE, x -> x.replace(19));
        add("card(5, 0)", RefusedCalls::rich, INDEX, x -> x.card(5, 0));
        add("card(0, 9)", RefusedCalls::rich, ARGUMENT, x -> x.card(0, 9));
        add("ride(5, 0, true)", RefusedCalls::rich, INDEX, x -> x.ride(5, 0, true));
        add("ride(0, 1, true)", RefusedCalls::rich, ELEMENT, x -> x.ride(0, 1, true));
        add("pass(0, 1)", RefusedCalls::richWithRide, UNSUPPORTED, x -> x.pass(0, 1));
    }

    private void addMoney() {
        add("refundable(5)", RefusedCalls::rich, INDEX, x -> x.refundable(5));
        add("refund(5)", RefusedCalls::rich, INDEX, x -> x.refund(5));
        add("refund(2)", RefusedCalls::rich, STATE, x -> x.refund(2));
        add("refund(3)", RefusedCalls::rich, STATE, x -> x.refund(3));
        add("share(5, 0)", RefusedCalls::rich, INDEX, x -> x.share(5, 0));
        add("share(0, 4)", RefusedCalls::rich, INDEX, x -> x.share(0, 4));
        add("partner(4, 0)", RefusedCalls::rich, INDEX, x -> x.partner(4, 0));
        add("partner(0, 4)", RefusedCalls::rich, ARGUMENT, x -> x.partner(0, 4));
        add("account(5)", RefusedCalls::rich, ARGUMENT, x -> x.account(5));
        add("meanRides of none", () -> gates(0, 0), ARITHMETIC, x -> x.meanRides());
    }

    private void addTexts() {
        add("append wrong", RefusedCalls::richWithText, ARGUMENT, x -> x.append('w' << 24 | '0' << 16 | 31));
        add("append too much", RefusedCalls::richWithFullBuffer, STATE, x -> x.append('7' << 8 | '7'));
        add("errorPosition of none", RefusedCalls::fullOfGates, ELEMENT, x -> x.errorPosition());
        addText("w7;", ARGUMENT);
        addText("s0*", ARGUMENT);
        addText("w0;s2", UNSUPPORTED);
        addText("s0*2;s2*0", UNSUPPORTED);
        addText("b0;b2", UNSUPPORTED);
        addText("r0;r0", UNSUPPORTED);
        addText("c1;o3;s9", UNSUPPORTED);
        addText("w700;w2881;b9", UNSUPPORTED);
        add("refusedOrder of none", RefusedCalls::fullOfGates, ELEMENT, x -> x.refusedOrder());
    }

    private void addUndo() {
        add("undo of none", SkiPasses::new, STATE, x -> x.undo());
        add("undo after restore", () -> {
            SkiPasses x = richWithText();
            x.restore();
            return x;
        }, STATE, x -> x.undo());
        add("restore of none", RefusedCalls::fullOfCards, STATE, x -> x.restore());
    }

    /** Calls to which two exceptions apply: the one that is listed first is due. */
    static List<Refused> twiceWrong() {
        RefusedCalls calls = new RefusedCalls();
        calls.add("addGate", RefusedCalls::fullOfGates, ARGUMENT, x -> x.addGate(0, 100));
        calls.add("addProduct", RefusedCalls::fullOfProducts, ARGUMENT, x -> addProduct(x, 0, 10, 1));
        calls.add("gate", RefusedCalls::fullOfGates, INDEX, x -> x.gate(12, 6));
        calls.add("product", RefusedCalls::fullOfProducts, INDEX, x -> x.product(8, 9));
        calls.add("advance", RefusedCalls::fullOfCards, ARGUMENT, x -> x.advance(2881));
        calls.add("closedMinutes", RefusedCalls::fullOfGates, INDEX, x -> x.closedMinutes(12, 31));
        calls.add("isClosedDay", RefusedCalls::fullOfProducts, INDEX, x -> x.isClosedDay(8, 31));
        calls.add("sell", RefusedCalls::fullOfCards, INDEX, x -> x.sell(8));
        calls.add("pass, card", RefusedCalls::rich, INDEX, x -> x.pass(5, 0));
        calls.add("pass, gate", RefusedCalls::rich, INDEX, x -> x.pass(1, 3));
        calls.add("refusal", RefusedCalls::fullOfCards, STATE, x -> x.refusal(-1));
        calls.add("replace", RefusedCalls::fullOfCards, INDEX, x -> x.replace(20));
        calls.add("card", RefusedCalls::fullOfCards, INDEX, x -> x.card(20, 9));
        calls.add("ride", RefusedCalls::fullOfCards, INDEX, x -> x.ride(20, -1, true));
        calls.add("partner", RefusedCalls::fullOfCards, INDEX, x -> x.partner(4, 4));
        calls.add("closedShare", SkiPasses::new, INDEX, x -> x.closedShare(0));
        calls.add("append", RefusedCalls::richWithFullBuffer, ARGUMENT, x -> x.append(0x7f777777));
        calls.addText("s9;x", ARGUMENT);
        return calls.all;
    }
}
