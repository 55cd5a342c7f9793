import java.util.function.Supplier;

/** Long runs of calls, the same ones on a Nestprint and on the model: each answer must be the same. */
public final class ModelTest {
    private static final int RUNS = 300;
    private static final int CALLS = 200;
    /** Each tenth run goes on to the end of what is promised: 512 calls. */
    private static final int LONG_RUN = 10;
    private static final int MOST_CALLS = 512;
    /** What one step of a run and what stands at its end can take, together. */
    private static final int SPARE_CALLS = 9;
    /** More than this many GROUPS and SOFTS, and the model tries too many layouts. */
    private static final int MOST_CHOICES = 11;

    private static int wrong = 0;
    private static int calls = 0;
    private static long state = 0;

    public static void main(String[] args) {
        for (int run = 1; run <= RUNS && wrong < 10; run++) {
            state = run * 7919L;
            playRun(run);
        }
        if (wrong > 0) {
            System.exit(1);
        }
        System.out.println(RUNS + " runs are as the model has them");
    }

    private static int below(int bound) {
        state = state * 6364136223846793005L + 1442695040888963407L;
        return (int) ((state >>> 33) % bound);
    }

    private static int from(int least, int most) {
        return least + below(most - least + 1);
    }

    private static String answer(Supplier<Object> call) {
        try {
            return String.valueOf(call.get());
        } catch (IllegalArgumentException | IllegalStateException | IndexOutOfBoundsException thrown) {
            return "throws." + thrown.getClass().getSimpleName();
        }
    }

    private static void due(int run, int nth, String call, Supplier<Object> got, Supplier<Object> want) {
        calls++;
        String ofPrinter = answer(got);
        String ofModel = answer(want);
        if (!ofPrinter.equals(ofModel)) {
            wrong++;
            System.out.println("run " + run + ", call " + nth + ": " + call + " answered " + ofPrinter + ", due is " + ofModel);
        }
    }

    private static void playRun(int run) {
        Nestprint x = new Nestprint();
        Model m = new Model();
        int style = below(4);
        int most = run % LONG_RUN == 0 ? MOST_CALLS : CALLS;
        calls = 0;
        for (int nth = 0; calls + SPARE_CALLS <= most && wrong < 10; nth++) {
            if (style == 3 && nth % 3 == 0) {
                type(run, nth, x, m, below(2) == 0);
            } else if (style == 2 || below(2) == 0) {
                make(run, nth, x, m);
            } else {
                ask(run, nth, x, m);
            }
        }
        due(run, calls, "isSound", () -> x.isSound(), () -> m.isSound());
        if (m.nodes.isEmpty() || isFew(m, m.nodes.size() - 1)) {
            due(run, calls, "digest", () -> x.digest(), () -> m.digest());
        }
    }

    private static boolean isFew(Model m, int node) {
        return node < 0 || node >= m.nodes.size() || m.nodes.get(node).choices() <= MOST_CHOICES
            || m.nodes.get(node).leaves().size() > 12;
    }

    /** Mostly a node that is there, and mostly a late one. */
    private static int node(Model m) {
        int count = m.nodes.size();
        if (count == 0 || below(25) == 0) {
            return wild(-2, count + 1);
        }
        return below(3) == 0 ? below(count) : Math.max(0, count - 1 - below(4));
    }

    private static int wild(int least, int most) {
        if (below(60) == 0) {
            return below(2) == 0 ? Integer.MIN_VALUE : Integer.MAX_VALUE;
        }
        return below(15) == 0 ? from(least - 3, most + 3) : from(least, most);
    }

    private static void make(int run, int nth, Nestprint x, Model m) {
        int a = node(m), b = node(m), by = wild(0, 8), kind = wild(1, 4), letter = wild(0, 25), length = wild(1, 9);
        switch (below(16)) {
            case 0: case 1: case 2:
                due(run, nth, "word(" + letter + ", " + length + ")", () -> x.word(letter, length), () -> m.word(letter, length));
                break;
            case 3: case 4:
                due(run, nth, "mark(" + kind + ")", () -> x.mark(kind), () -> m.mark(kind));
                break;
            case 5: case 6: case 7:
                due(run, nth, "join(" + a + ", " + b + ")", () -> x.join(a, b), () -> m.join(a, b));
                break;
            case 8: case 9:
                due(run, nth, "nest(" + a + ", " + by + ")", () -> x.nest(a, by), () -> m.nest(a, by));
                break;
            case 10: case 11:
                due(run, nth, "align(" + a + ")", () -> x.align(a), () -> m.align(a));
                break;
            case 12: case 13:
                due(run, nth, "group(" + a + ")", () -> x.group(a), () -> m.group(a));
                break;
            case 14:
                due(run, nth, "fill(" + a + ", " + b + ")", () -> x.fill(a, b), () -> m.fill(a, b));
                break;
            default:
                if (below(4) == 0) {
                    due(run, nth, "forget()", () -> x.forget(), () -> m.forget());
                } else if (below(2) == 0) {
                    due(run, nth, "read()", () -> x.read(), () -> m.read());
                } else {
                    type(run, nth, x, m, below(2) == 0);
                }
        }
    }

    private static final int[] OF_DOCUMENT = {0, 1, 2, 3, 4, 5, 0, 1, 6, 6, 7, 8, 9, 9, 10, 10, 11, 11, 11, 12, 13, 13, 14, 15, 15, 20, -1, 21, 16};
    private static final int[] OF_CODE = {0, 1, 2, 3, 4, 5, 0, 1, 2, 7, 7, 10, 10, 11, 11, 16, 16, 16, 17, 17, 17, 17, 18, 18, 19, 19, 20, -1, 21};

    private static void type(int run, int nth, Nestprint x, Model m, boolean isCode) {
        int[] c = new int[6];
        for (int place = 0; place < 6; place++) {
            int[] codes = isCode ? OF_CODE : OF_DOCUMENT;
            c[place] = codes[below(codes.length)];
            // What would not go on is mostly left away, so that long texts without a fault come about.
            if (c[place] >= 0 && c[place] < 20 && below(30) != 0) {
                int[] before = c;
                int last = place;
                Model trial = new Model();
                for (char sign : m.typed().toCharArray()) {
                    trial.say("abcdef_,;~[]{}<>()+*".indexOf(sign));
                }
                answer(() -> trial.say(java.util.Arrays.copyOf(before, last + 1)));
                int fault = trial.fault(isCode);
                if (fault != Model.NONE && fault < trial.typed().length()) {
                    c[place] = below(2) == 0 ? -1 : below(6);
                }
            }
        }
        if (below(60) == 0) {
            c[below(6)] = wild(-4, 24);
        }
        due(run, nth, "say(" + java.util.Arrays.toString(c) + ")", () -> x.say(c[0], c[1], c[2], c[3], c[4], c[5]), () -> m.say(c));
        due(run, nth, "typed()", () -> x.typed(), () -> m.typed());
        due(run, nth, "fault(false) of " + m.typed(), () -> x.fault(false), () -> m.fault(false));
        due(run, nth, "fault(true) of " + m.typed(), () -> x.fault(true), () -> m.fault(true));
        if (isCode) {
            due(run, nth, "code() of " + m.typed(), () -> x.code(), () -> m.code());
            due(run, nth, "plain()", () -> x.plain(), () -> m.plain());
        } else {
            due(run, nth, "read() of " + m.typed(), () -> x.read(), () -> m.read());
        }
    }

    private static void ask(int run, int nth, Nestprint x, Model m) {
        int a = node(m), b = node(m), what = wild(0, 9), few = wild(0, 6), room = wild(1, 60), narrow = wild(1, 14);
        int line = wild(0, 4), column = wild(0, 19);
        boolean is = below(2) == 0;
        String one = "(" + a + ", ";
        switch (below(22)) {
            case 0:
                due(run, nth, "ofNode" + one + what + ")", () -> x.ofNode(a, what), () -> m.ofNode(a, what));
                break;
            case 1:
                due(run, nth, "flat(" + a + ")", () -> x.flat(a), () -> m.flat(a));
                break;
            case 2: case 3:
                due(run, nth, "line" + one + few + ")", () -> x.line(a, few), () -> m.line(a, few));
                break;
            case 4:
                due(run, nth, "measure" + one + what + ")", () -> x.measure(a, what), () -> m.measure(a, what));
                break;
            case 5:
                due(run, nth, "at" + one + line + ", " + column + ")", () -> x.at(a, line, column), () -> m.at(a, line, column));
                break;
            case 6:
                due(run, nth, "where" + one + few + ", " + is + ")", () -> x.where(a, few, is), () -> m.where(a, few, is));
                break;
            case 7:
                due(run, nth, "isOne" + one + few + ")", () -> x.isOne(a, few), () -> m.isOne(a, few));
                break;
            case 8:
                if (!is || isFew(m, a) && isFew(m, b)) {
                    due(run, nth, "differ" + one + b + ", " + is + ")", () -> x.differ(a, b, is), () -> m.differ(a, b, is));
                }
                break;
            case 9:
                due(run, nth, "ofCode(" + what + ")", () -> x.ofCode(what), () -> m.ofCode(what));
                break;
            case 10:
                due(run, nth, "codeLine(" + few + ")", () -> x.codeLine(few), () -> m.codeLine(few));
                break;
            case 11:
                due(run, nth, "house(" + what + ")", () -> x.house(what), () -> m.house(what));
                break;
            case 12:
                due(run, nth, "fits" + one + column + ")", () -> x.fits(a, column), () -> m.fits(a, column));
                break;
            case 13:
                due(run, nth, "would" + one + room + ", " + what + ")", () -> x.would(a, room, what), () -> m.would(a, room, what));
                break;
            case 14:
                due(run, nth, "narrowest(" + a + ")", () -> x.narrowest(a), () -> m.narrowest(a));
                break;
            case 15:
                if (isFew(m, a)) {
                    due(run, nth, "least" + one + few + ")", () -> x.least(a, few), () -> m.least(a, few));
                }
                break;
            case 16:
                if (isFew(m, a)) {
                    due(run, nth, "leastLine" + one + few + ")", () -> x.leastLine(a, few), () -> m.leastLine(a, few));
                }
                break;
            case 17:
                due(run, nth, "blank()", () -> x.blank(), () -> m.blank());
                due(run, nth, "knock()", () -> x.knock(), () -> m.knock());
                break;
            case 18: case 19:
                due(run, nth, "width(" + narrow + ")", () -> x.width(narrow), () -> m.width(narrow));
                break;
            case 20:
                due(run, nth, "ribbon(" + narrow + ")", () -> x.ribbon(narrow), () -> m.ribbon(narrow));
                break;
            default:
                if (isFew(m, m.nodes.size() - 1)) {
                    due(run, nth, "digest()", () -> x.digest(), () -> m.digest());
                }
        }
    }
}
