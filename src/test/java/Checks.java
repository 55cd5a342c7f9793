import java.util.function.Function;
import java.util.function.Supplier;

/** What the tests say when an answer is not the one that is due. */
final class Checks {
    private static final String CODES = "abcdef_,;~[]{}<>()+*";
    private static int made = 0;
    private static int wrong = 0;

    private Checks() {
    }

    static void due(String call, Object got, Object want) {
        made++;
        if (!want.equals(got)) {
            wrong++;
            System.out.println(call + " answered " + got + ", due is " + want);
        }
    }

    /** What a call answers, or the name of what it throws. */
    static String answer(Supplier<Object> call) {
        try {
            return String.valueOf(call.get());
        } catch (RuntimeException thrown) {
            return thrown.getClass().getSimpleName();
        }
    }

    /** The call must throw just this, and change nothing of all that can be asked. */
    static void refused(String call, Nestprint x, Class<?> want, Supplier<Object> asked) {
        String before = stateOf(x);
        due(call, answer(asked), want.getSimpleName());
        due(call + " changed something", stateOf(x), before);
    }

    /** Of two printers made alike one refuses the call, which must throw just this; then both must go on alike. */
    static void refusedAlike(String call, Supplier<Nestprint> maker, Class<?> want, Function<Nestprint, Object> asked) {
        Nestprint x = maker.get();
        due(call, answer(() -> asked.apply(x)), want.getSimpleName());
        due(call + " changed something", goneOn(x), goneOn(maker.get()));
    }

    private static String stateOf(Nestprint x) {
        StringBuilder all = new StringBuilder();
        for (int what = 0; what <= 7; what++) {
            all.append(x.house(what)).append(' ');
        }
        for (int node = 0; node < x.house(0); node++) {
            all.append(x.flat(node)).append(' ');
        }
        return all.append(x.typed()).append(' ').append(x.plain()).append(' ').append(x.digest()).toString();
    }

    /** What it answers now, and when it is used further: here all that a call left behind would come to light. */
    private static String goneOn(Nestprint x) {
        StringBuilder all = new StringBuilder(stateOf(x)).append('|');
        all.append(answer(() -> x.word(25, 2))).append(' ').append(answer(() -> x.mark(4))).append(' ');
        int last = Math.max(0, x.house(0) - 1);
        all.append(answer(() -> x.join(last, 0))).append(' ').append(answer(() -> x.nest(last, 3))).append(' ');
        all.append(answer(() -> x.fill(0, Math.min(last, 1)))).append(' ').append(answer(() -> x.group(last))).append(' ');
        all.append(answer(() -> x.read())).append(' ').append(answer(() -> x.code())).append(' ');
        all.append(answer(() -> x.say(20, 1, -1, -1, -1, -1))).append(' ').append(x.fault(false)).append(x.fault(true));
        all.append(' ').append(x.width(7)).append(' ').append(x.ribbon(6)).append(' ').append(x.knock()).append('|');
        return all.append(stateOf(x)).toString();
    }

    /** Types a text in place of what is typed. */
    static void type(Nestprint x, String text) {
        x.say(21, -1, -1, -1, -1, -1);
        for (char sign : text.toCharArray()) {
            x.say(CODES.indexOf(sign), -1, -1, -1, -1, -1);
        }
    }

    static int read(Nestprint x, String text) {
        type(x, text);
        return x.read();
    }

    static int code(Nestprint x, String text) {
        type(x, text);
        return x.code();
    }

    /** Its lines, with a bar between each two. */
    static String lines(Nestprint x, int node) {
        StringBuilder all = new StringBuilder();
        for (int nth = 0; nth < x.measure(node, 0); nth++) {
            all.append(nth > 0 ? "|" : "").append(x.line(node, nth));
        }
        return all.toString();
    }

    static String leastLines(Nestprint x, int node) {
        StringBuilder all = new StringBuilder();
        for (int nth = 0; nth < x.least(node, 1); nth++) {
            all.append(nth > 0 ? "|" : "").append(x.leastLine(node, nth));
        }
        return all.toString();
    }

    static String codeLines(Nestprint x) {
        StringBuilder all = new StringBuilder();
        for (int nth = 0; nth < x.ofCode(9); nth++) {
            all.append(nth > 0 ? "|" : "").append(x.codeLine(nth));
        }
        return all.toString();
    }

    /** A printer with so many nodes, all words of one letter. */
    static Nestprint withWords(int count) {
        Nestprint x = new Nestprint();
        for (int node = 0; node < count; node++) {
            x.word(node % 26, 1);
        }
        return x;
    }

    /** A printer with a word, and one NEST by 0 over the other: node n has a DEPTH of n + 1. */
    static Nestprint deep(int depth) {
        Nestprint x = new Nestprint();
        x.word(0, 1);
        for (int node = 0; node < depth - 1; node++) {
            x.nest(node, 0);
        }
        return x;
    }

    /** A printer with so many SIGNS typed, all letters. */
    static Nestprint withSigns(int count) {
        Nestprint x = new Nestprint();
        for (int sign = 0; sign < count; sign++) {
            x.say(sign % 6, -1, -1, -1, -1, -1);
        }
        return x;
    }

    static void end() {
        System.out.println(made + " answers, " + wrong + " of them wrong");
        if (wrong > 0) {
            System.exit(1);
        }
    }
}
