import java.util.function.Supplier;

/** What the tests say when an answer is not the one that is due. */
final class Checks {
    private static final String CODES = "abcdef_,;~[]{}<>()+*";
    private static int made = 0;
    private static int wrong = 0;

    private Checks() {
    }

    static void due(String call, Object got, Object want) {
        made++;
        if (!want.equals(got)) {
            wrong++;
            System.out.println(call + " answered " + got + ", due is " + want);
        }
    }

    /** The call must throw just this, and change nothing of all that can be asked. */
    static void refused(String call, Nestprint x, Class<?> want, Supplier<Object> made) {
        String before = stateOf(x);
        String got;
        try {
            got = String.valueOf(made.get());
        } catch (RuntimeException thrown) {
            got = thrown.getClass().getSimpleName();
        }
        due(call, got, want.getSimpleName());
        due(call + " changed something", stateOf(x), before);
    }

    private static String stateOf(Nestprint x) {
        StringBuilder all = new StringBuilder();
        for (int what = 0; what <= 7; what++) {
            all.append(x.house(what)).append(' ');
        }
        for (int node = 0; node < x.house(0); node++) {
            all.append(x.ofNode(node, 0)).append(x.ofNode(node, 2)).append(x.flat(node)).append(' ');
        }
        return all.append(x.typed()).append(' ').append(x.plain()).append(' ').append(x.digest()).toString();
    }

    /** Types a text in place of what is typed. */
    static void type(Nestprint x, String text) {
        x.say(21, -1, -1, -1, -1, -1);
        for (char sign : text.toCharArray()) {
            x.say(CODES.indexOf(sign), -1, -1, -1, -1, -1);
        }
    }

    static int read(Nestprint x, String text) {
        type(x, text);
        return x.read();
    }

    static int code(Nestprint x, String text) {
        type(x, text);
        return x.code();
    }

    /** Its lines, with a bar between each two. */
    static String lines(Nestprint x, int node) {
        StringBuilder all = new StringBuilder();
        for (int nth = 0; nth < x.measure(node, 0); nth++) {
            all.append(nth > 0 ? "|" : "").append(x.line(node, nth));
        }
        return all.toString();
    }

    static String leastLines(Nestprint x, int node) {
        StringBuilder all = new StringBuilder();
        for (int nth = 0; nth < x.least(node, 1); nth++) {
            all.append(nth > 0 ? "|" : "").append(x.leastLine(node, nth));
        }
        return all.toString();
    }

    static String codeLines(Nestprint x) {
        StringBuilder all = new StringBuilder();
        for (int nth = 0; nth < x.ofCode(9); nth++) {
            all.append(nth > 0 ? "|" : "").append(x.codeLine(nth));
        }
        return all.toString();
    }

    /** A printer with so many nodes, all words of one letter. */
    static Nestprint withWords(int count) {
        Nestprint x = new Nestprint();
        for (int node = 0; node < count; node++) {
            x.word(node % 26, 1);
        }
        return x;
    }

    static void end() {
        System.out.println(made + " answers, " + wrong + " of them wrong");
        if (wrong > 0) {
            System.exit(1);
        }
    }
}
