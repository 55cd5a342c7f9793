import java.util.function.Supplier;

/** Of each argument the least and the greatest that is taken, and the first that is refused on either side. */
public final class ArgumentBoundsTest {
    private static final Class<?> ARGUMENT = IllegalArgumentException.class;
    private static final Class<?> STATE = IllegalStateException.class;
    private static final Class<?> INDEX = IndexOutOfBoundsException.class;

    /** A call with the one argument that is looked at. */
    private interface Call {
        Object on(Nestprint x, int argument);
    }

    public static void main(String[] args) {
        numbersOfNodes();
        numbersWhenFull();
        makersOfNodes();
        theRoom();
        codes();
        whatOfNodes();
        whatOfTheRest();
        nths();
        indexFirst();
        argumentFirst();
        indexAheadOfState();
        Checks.end();
    }

    /** Three NODES: a TEXT, a SOFT, a JOIN of both; and CODE. */
    private static Nestprint used() {
        Nestprint x = new Nestprint();
        x.word(0, 2);
        x.mark(4);
        x.join(0, 1);
        x.width(12);
        Checks.code(x, "a(b)");
        return x;
    }

    private static Nestprint forgotten() {
        Nestprint x = used();
        x.forget();
        return x;
    }

    private static Nestprint full() {
        return Checks.withWords(80);
    }

    /** Its last NODE, 1, has a WEIGHT of 13. */
    private static Nestprint heavy() {
        Nestprint x = new Nestprint();
        x.word(0, 2);
        Checks.read(x, "_".repeat(13));
        return x;
    }

    // ---- which NODES there are

    private static void numbersOfNodes() {
        numbers("join(%d, 0)", (x, node) -> x.join(node, 0));
        numbers("join(0, %d)", (x, node) -> x.join(0, node));
        numbers("nest(%d, 0)", (x, node) -> x.nest(node, 0));
        numbers("align(%d)", (x, node) -> x.align(node));
        numbers("group(%d)", (x, node) -> x.group(node));
        numbers("fill(%d, 2)", (x, node) -> x.fill(node, 2));
        numbers("fill(0, %d)", (x, node) -> x.fill(0, node));
        numbers("ofNode(%d, 0)", (x, node) -> x.ofNode(node, 0));
        numbers("flat(%d)", (x, node) -> x.flat(node));
        numbers("line(%d, 0)", (x, node) -> x.line(node, 0));
        numbers("measure(%d, 0)", (x, node) -> x.measure(node, 0));
        numbers("at(%d, 0, 0)", (x, node) -> x.at(node, 0, 0));
        numbers("where(%d, 0, true)", (x, node) -> x.where(node, 0, true));
        numbers("isOne(%d, 0)", (x, node) -> x.isOne(node, 0));
        numbers("differ(%d, 0, false)", (x, node) -> x.differ(node, 0, false));
        numbers("differ(0, %d, false)", (x, node) -> x.differ(0, node, false));
        numbers("differ(%d, 0, true)", (x, node) -> x.differ(node, 0, true));
        numbers("differ(0, %d, true)", (x, node) -> x.differ(0, node, true));
        numbers("fits(%d, 0)", (x, node) -> x.fits(node, 0));
        numbers("would(%d, 1, 0)", (x, node) -> x.would(node, 1, 0));
        numbers("narrowest(%d)", (x, node) -> x.narrowest(node));
        numbers("least(%d, 0)", (x, node) -> x.least(node, 0));
        numbers("leastLine(%d, 0)", (x, node) -> x.leastLine(node, 0));
    }

    private static void numbers(String call, Call made) {
        bounds(call + " of 3 NODES", ArgumentBoundsTest::used, 0, 2, INDEX, made);
        for (int node : new int[] {Integer.MIN_VALUE, -1, 0, 1, Integer.MAX_VALUE}) {
            refused(call + " of no NODES", Nestprint::new, node, INDEX, made);
        }
        for (int node : new int[] {0, 2}) {
            refused(call + " of 3 forgotten NODES", ArgumentBoundsTest::forgotten, node, INDEX, made);
        }
    }

    /** What makes a NODE is refused with 80 NODES anyway, but in another way. */
    private static void numbersWhenFull() {
        bounds("flat(%d) of 80 NODES", ArgumentBoundsTest::full, 0, 79, INDEX, (x, node) -> x.flat(node));
        bounds("line(%d, 0) of 80 NODES", ArgumentBoundsTest::full, 0, 79, INDEX, (x, node) -> x.line(node, 0));
        bounds("narrowest(%d) of 80 NODES", ArgumentBoundsTest::full, 0, 79, INDEX, (x, node) -> x.narrowest(node));
        Call[] makers = {(x, node) -> x.join(node, 0), (x, node) -> x.join(0, node), (x, node) -> x.nest(node, 0),
            (x, node) -> x.align(node), (x, node) -> x.group(node), (x, node) -> x.fill(node, 79), (x, node) -> x.fill(0, node)};
        for (int nth = 0; nth < makers.length; nth++) {
            String call = "maker " + nth + " with %d of 80 NODES";
            refused(call, ArgumentBoundsTest::full, 79, STATE, makers[nth]);
            refused(call, ArgumentBoundsTest::full, 0, STATE, makers[nth]);
            refused(call, ArgumentBoundsTest::full, 80, INDEX, makers[nth]);
            refused(call, ArgumentBoundsTest::full, -1, INDEX, makers[nth]);
        }
    }

    // ---- which other arguments there are

    private static void makersOfNodes() {
        range("word(%d, 1)", 0, 25, (x, letter) -> x.word(letter, 1));
        range("word(0, %d)", 1, 9, (x, length) -> x.word(0, length));
        range("mark(%d)", 1, 4, (x, kind) -> x.mark(kind));
        range("nest(0, %d)", 0, 8, (x, by) -> x.nest(0, by));
        range("fill(%d, 2)", 0, 2, INDEX, (x, first) -> x.fill(first, 2));
        Checks.due("fill(2, 2)", used().fill(2, 2), 3);
        Checks.due("fill(1, 2)", used().fill(1, 2), 3);
        Checks.refusedAlike("fill(2, 1)", ArgumentBoundsTest::used, ARGUMENT, x -> x.fill(2, 1));
        Checks.refusedAlike("fill(1, 0)", ArgumentBoundsTest::used, ARGUMENT, x -> x.fill(1, 0));
        Checks.refusedAlike("fill(2, 0)", ArgumentBoundsTest::used, ARGUMENT, x -> x.fill(2, 0));
    }

    private static void theRoom() {
        range("width(%d)", 1, 60, (x, width) -> x.width(width));
        range("ribbon(%d)", 1, 60, (x, ribbon) -> x.ribbon(ribbon));
        for (int room : new int[] {1, 60}) {
            Nestprint x = new Nestprint();
            Checks.due("width(" + room + ") at first", x.width(room), 20);
            Checks.due("ribbon(" + room + ") at first", x.ribbon(room), 60);
            Checks.due("WIDTH " + room, x.house(1), room);
            Checks.due("RIBBON " + room, x.house(2), room);
            Checks.due("width() behind " + room, x.width(30), room);
            Checks.due("ribbon() behind " + room, x.ribbon(30), room);
        }
    }

    private static void codes() {
        range("say(%d, ..)", -1, 21, (x, code) -> x.say(code, -1, -1, -1, -1, -1));
        range("say(.., %d, ..) second", -1, 21, (x, code) -> x.say(-1, code, -1, -1, -1, -1));
        range("say(.., %d, ..) third", -1, 21, (x, code) -> x.say(-1, -1, code, -1, -1, -1));
        range("say(.., %d, ..) fourth", -1, 21, (x, code) -> x.say(-1, -1, -1, code, -1, -1));
        range("say(.., %d, ..) fifth", -1, 21, (x, code) -> x.say(-1, -1, -1, -1, code, -1));
        range("say(.., %d)", -1, 21, (x, code) -> x.say(-1, -1, -1, -1, -1, code));
        range("say(%d) ahead of what is typed", -1, 21, (x, code) -> x.say(code, 0, 20, 1, 21, 2));
        range("say(%d) behind what is typed", -1, 21, (x, code) -> x.say(0, 20, 1, 21, 2, code));
        String all = "abcdef_,;~[]{}<>()+*";
        for (int code = -1; code <= 21; code++) {
            Nestprint x = new Nestprint();
            x.say(0, 1, -1, -1, -1, -1);
            String due = code == -1 ? "ab" : code == 20 ? "a" : code == 21 ? "" : "ab" + all.charAt(code);
            Checks.due("say() of " + code, x.say(code, -1, -1, -1, -1, -1), due.length());
            Checks.due("typed() behind " + code, x.typed(), due);
        }
    }

    private static void whatOfNodes() {
        range("ofNode(0, %d)", 0, 7, (x, what) -> x.ofNode(0, what));
        range("measure(0, %d)", 0, 8, (x, what) -> x.measure(0, what));
        range("fits(0, %d)", 0, 60, (x, column) -> x.fits(0, column));
        range("would(0, %d, 0)", 1, 60, (x, width) -> x.would(0, width, 0));
        range("would(0, %d, 8)", 1, 60, (x, width) -> x.would(0, width, 8));
        range("would(0, 1, %d)", 0, 8, (x, what) -> x.would(0, 1, what));
        range("would(0, 60, %d)", 0, 8, (x, what) -> x.would(0, 60, what));
        range("least(0, %d)", 0, 3, (x, what) -> x.least(0, what));
        Checks.refusedAlike("would(0, 0, 9)", ArgumentBoundsTest::used, ARGUMENT, x -> x.would(0, 0, 9));
    }

    private static void whatOfTheRest() {
        range("ofCode(%d)", 0, 9, (x, what) -> x.ofCode(what));
        range("house(%d)", 0, 7, (x, what) -> x.house(what));
        bounds("ofCode(%d) without CODE", Nestprint::new, 0, 9, ARGUMENT, (x, what) -> x.ofCode(what));
        bounds("house(%d) at first", Nestprint::new, 0, 7, ARGUMENT, (x, what) -> x.house(what));
    }

    private static void nths() {
        nth("line(2, %d)", ArgumentBoundsTest::used, "!", (x, nth) -> x.line(2, nth));
        nth("where(2, %d, false)", ArgumentBoundsTest::used, "-1", (x, nth) -> x.where(2, nth, false));
        nth("where(2, %d, true)", ArgumentBoundsTest::used, "-1", (x, nth) -> x.where(2, nth, true));
        nth("isOne(2, %d)", ArgumentBoundsTest::used, "-1", (x, nth) -> x.isOne(2, nth));
        nth("codeLine(%d)", ArgumentBoundsTest::used, "!", (x, nth) -> x.codeLine(nth));
        nth("codeLine(%d) without CODE", Nestprint::new, "!", (x, nth) -> x.codeLine(nth));
        nth("leastLine(2, %d)", ArgumentBoundsTest::used, "!", (x, nth) -> x.leastLine(2, nth));
    }

    /** From 0 on all are taken; what is there at 0 alone is told elsewhere. */
    private static void nth(String call, Supplier<Nestprint> maker, String none, Call made) {
        taken(call, maker, 0, made);
        for (int nth : new int[] {1, 2, 60, 61, Integer.MAX_VALUE}) {
            Nestprint x = maker.get();
            Checks.due(call.replace("%d", "" + nth), Checks.answer(() -> made.on(x, nth)), none);
        }
        for (int nth : new int[] {-1, -2, Integer.MIN_VALUE}) {
            refused(call, maker, nth, ARGUMENT, made);
        }
    }

    // ---- which exception is thrown, where several apply

    private static void indexFirst() {
        for (int node : new int[] {-1, 3}) {
            refused("nest(%d, 9)", ArgumentBoundsTest::used, node, INDEX, (x, n) -> x.nest(n, 9));
            refused("nest(%d, -1)", ArgumentBoundsTest::used, node, INDEX, (x, n) -> x.nest(n, -1));
            refused("ofNode(%d, 8)", ArgumentBoundsTest::used, node, INDEX, (x, n) -> x.ofNode(n, 8));
            refused("ofNode(%d, -1)", ArgumentBoundsTest::used, node, INDEX, (x, n) -> x.ofNode(n, -1));
            refused("line(%d, -1)", ArgumentBoundsTest::used, node, INDEX, (x, n) -> x.line(n, -1));
            refused("measure(%d, 9)", ArgumentBoundsTest::used, node, INDEX, (x, n) -> x.measure(n, 9));
            refused("measure(%d, -1)", ArgumentBoundsTest::used, node, INDEX, (x, n) -> x.measure(n, -1));
            refused("where(%d, -1, false)", ArgumentBoundsTest::used, node, INDEX, (x, n) -> x.where(n, -1, false));
            refused("where(%d, -1, true)", ArgumentBoundsTest::used, node, INDEX, (x, n) -> x.where(n, -1, true));
            refused("isOne(%d, -1)", ArgumentBoundsTest::used, node, INDEX, (x, n) -> x.isOne(n, -1));
            refused("fits(%d, 61)", ArgumentBoundsTest::used, node, INDEX, (x, n) -> x.fits(n, 61));
            refused("fits(%d, -1)", ArgumentBoundsTest::used, node, INDEX, (x, n) -> x.fits(n, -1));
            refused("would(%d, 0, 0)", ArgumentBoundsTest::used, node, INDEX, (x, n) -> x.would(n, 0, 0));
            refused("would(%d, 1, 9)", ArgumentBoundsTest::used, node, INDEX, (x, n) -> x.would(n, 1, 9));
            refused("least(%d, 4)", ArgumentBoundsTest::used, node, INDEX, (x, n) -> x.least(n, 4));
            refused("leastLine(%d, -1)", ArgumentBoundsTest::used, node, INDEX, (x, n) -> x.leastLine(n, -1));
        }
        // The first is above the last one, but it is not there either.
        Checks.refusedAlike("fill(3, 0)", ArgumentBoundsTest::used, INDEX, x -> x.fill(3, 0));
        Checks.refusedAlike("fill(0, -1)", ArgumentBoundsTest::used, INDEX, x -> x.fill(0, -1));
        Checks.refusedAlike("fill(4, 3)", ArgumentBoundsTest::used, INDEX, x -> x.fill(4, 3));
    }

    private static void argumentFirst() {
        Checks.refusedAlike("word(26, 1) with 80", ArgumentBoundsTest::full, ARGUMENT, x -> x.word(26, 1));
        Checks.refusedAlike("word(-1, 1) with 80", ArgumentBoundsTest::full, ARGUMENT, x -> x.word(-1, 1));
        Checks.refusedAlike("word(0, 0) with 80", ArgumentBoundsTest::full, ARGUMENT, x -> x.word(0, 0));
        Checks.refusedAlike("word(0, 10) with 80", ArgumentBoundsTest::full, ARGUMENT, x -> x.word(0, 10));
        Checks.refusedAlike("mark(0) with 80", ArgumentBoundsTest::full, ARGUMENT, x -> x.mark(0));
        Checks.refusedAlike("mark(5) with 80", ArgumentBoundsTest::full, ARGUMENT, x -> x.mark(5));
        Checks.refusedAlike("nest(0, 9) with 80", ArgumentBoundsTest::full, ARGUMENT, x -> x.nest(0, 9));
        Checks.refusedAlike("nest(0, -1) with 80", ArgumentBoundsTest::full, ARGUMENT, x -> x.nest(0, -1));
        Checks.refusedAlike("fill(1, 0) with 80", ArgumentBoundsTest::full, ARGUMENT, x -> x.fill(1, 0));
        Checks.refusedAlike("nest of DEPTH 21 by 9", () -> Checks.deep(20), ARGUMENT, x -> x.nest(19, 9));
        Checks.refusedAlike("nest of DEPTH 21 by -1", () -> Checks.deep(20), ARGUMENT, x -> x.nest(19, -1));
        Checks.refusedAlike("fill of DEPTH 21, backwards", () -> Checks.deep(20), ARGUMENT, x -> x.fill(19, 18));
        Checks.refusedAlike("say of a 61st and 22", () -> Checks.withSigns(60), ARGUMENT, x -> x.say(0, 22, -1, -1, -1, -1));
        Checks.refusedAlike("say of a 61st and -2", () -> Checks.withSigns(60), ARGUMENT, x -> x.say(0, -1, -1, -1, -1, -2));
        Checks.refusedAlike("least(.., 4) of WEIGHT 13", ArgumentBoundsTest::heavy, ARGUMENT, x -> x.least(1, 4));
        Checks.refusedAlike("least(.., -1) of WEIGHT 13", ArgumentBoundsTest::heavy, ARGUMENT, x -> x.least(1, -1));
        Checks.refusedAlike("leastLine(.., -1) of WEIGHT 13", ArgumentBoundsTest::heavy, ARGUMENT, x -> x.leastLine(1, -1));
    }

    private static void indexAheadOfState() {
        Checks.refusedAlike("join(80, 0) with 80", ArgumentBoundsTest::full, INDEX, x -> x.join(80, 0));
        Checks.refusedAlike("nest(80, 9) with 80", ArgumentBoundsTest::full, INDEX, x -> x.nest(80, 9));
        Checks.refusedAlike("fill(80, 0) with 80", ArgumentBoundsTest::full, INDEX, x -> x.fill(80, 0));
        Checks.refusedAlike("join(19, 20) of DEPTH 21", () -> Checks.deep(20), INDEX, x -> x.join(19, 20));
        Checks.refusedAlike("join(20, 19) of DEPTH 21", () -> Checks.deep(20), INDEX, x -> x.join(20, 19));
        Checks.refusedAlike("fill(19, 20) of DEPTH 21", () -> Checks.deep(20), INDEX, x -> x.fill(19, 20));
        Checks.refusedAlike("differ(1, 2, true) of WEIGHT 13", ArgumentBoundsTest::heavy, INDEX, x -> x.differ(1, 2, true));
        Checks.refusedAlike("differ(2, 1, true) of WEIGHT 13", ArgumentBoundsTest::heavy, INDEX, x -> x.differ(2, 1, true));
        Checks.refusedAlike("differ(1, -1, true) of WEIGHT 13", ArgumentBoundsTest::heavy, INDEX, x -> x.differ(1, -1, true));
    }

    // ---- how it is tested

    private static void range(String call, int least, int most, Call made) {
        range(call, least, most, ARGUMENT, made);
    }

    private static void range(String call, int least, int most, Class<?> want, Call made) {
        bounds(call, ArgumentBoundsTest::used, least, most, want, made);
    }

    private static void bounds(String call, Supplier<Nestprint> maker, int least, int most, Class<?> want, Call made) {
        for (int argument = least; argument <= most; argument++) {
            taken(call, maker, argument, made);
        }
        for (int argument : new int[] {Integer.MIN_VALUE, least - 1, most + 1, Integer.MAX_VALUE}) {
            refused(call, maker, argument, want, made);
        }
    }

    private static void taken(String call, Supplier<Nestprint> maker, int argument, Call made) {
        Nestprint x = maker.get();
        boolean isThrown = Checks.answer(() -> made.on(x, argument)).endsWith("Exception");
        Checks.due(call.replace("%d", "" + argument) + " is refused:", isThrown, false);
    }

    private static void refused(String call, Supplier<Nestprint> maker, int argument, Class<?> want, Call made) {
        Checks.refusedAlike(call.replace("%d", "" + argument), maker, want, x -> made.on(x, argument));
    }
}
