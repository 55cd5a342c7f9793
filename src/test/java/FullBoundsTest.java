import java.util.function.Function;
import java.util.function.Supplier;

/** What is empty and what is full: NODES, WEIGHT, DEPTH, SIGNS, brackets, CODE; the last that is taken, the first that is not. */
public final class FullBoundsTest {
    private static final Class<?> STATE = IllegalStateException.class;
    private static final Class<?> INDEX = IndexOutOfBoundsException.class;

    public static void main(String[] args) {
        noNodes();
        eightyNodes();
        eightyForgotten();
        weightsOfJoins();
        weightsOfFills();
        weightsOfOthers();
        depths();
        depthsOfFills();
        noSigns();
        sixtySigns();
        oneSignMore();
        sixtySignsRead();
        bracketsOfDocuments();
        bracketsOfCode();
        fifthOnes();
        noCode();
        codeThatStays();
        counters();
        allCalls();
        Checks.end();
    }

    private static void takes(String call, Supplier<Nestprint> maker, Function<Nestprint, Object> made, Object due) {
        Nestprint x = maker.get();
        Checks.due(call, Checks.answer(() -> made.apply(x)), String.valueOf(due));
    }

    private static void refuses(String call, Supplier<Nestprint> maker, Function<Nestprint, Object> made) {
        Checks.refusedAlike(call, maker, STATE, made);
    }

    // ---- NODES

    private static void noNodes() {
        Nestprint x = new Nestprint();
        int[] house = {0, 20, 60, 0, 0, 0, 0, 0};
        for (int what = 0; what <= 7; what++) {
            Checks.due("house(" + what + ") of a new one", x.house(what), house[what]);
        }
        Checks.due("forget() of no NODES", x.forget(), 0);
        Checks.due("isSound() without NODES", x.isSound(), true);
        Checks.due("the first NODE", x.word(0, 1), 0);
        Checks.due("the second one", x.word(0, 1), 1);
        Checks.due("forget() of 2", x.forget(), 2);
        Checks.due("forget() again", x.forget(), 0);
        Checks.due("the first one then", x.mark(4), 0);
        Checks.due("its KIND", x.ofNode(0, 0), 4);
        Checks.due("NODES ever", x.house(6), 3);
        Checks.due("one of two that were forgotten", Checks.answer(() -> x.flat(1)), INDEX.getSimpleName());
    }

    /** The 80th is taken by whatever makes a NODE, the 81st is not. */
    private static void eightyNodes() {
        eightieth("word(0, 1)", x -> x.word(0, 1));
        eightieth("word(25, 9)", x -> x.word(25, 9));
        eightieth("mark(1)", x -> x.mark(1));
        eightieth("mark(4)", x -> x.mark(4));
        eightieth("join(0, 1)", x -> x.join(0, 1));
        eightieth("join(78, 78)", x -> x.join(78, 78));
        eightieth("nest(0, 0)", x -> x.nest(0, 0));
        eightieth("nest(78, 8)", x -> x.nest(78, 8));
        eightieth("align(0)", x -> x.align(0));
        eightieth("group(0)", x -> x.group(0));
        eightieth("fill(0, 0)", x -> x.fill(0, 0));
        eightieth("fill(49, 78)", x -> x.fill(49, 78));
        eightieth("read() of no SIGNS", x -> x.read());
        takes("read() of 3 ITEMS and 79", () -> wordsAndSigns(79, 0, 6, 1), x -> x.flat(x.read()), "a b");
        refuses("read() of 3 ITEMS and 80", () -> wordsAndSigns(80, 0, 6, 1), x -> x.read());
        takes("read() with a FAULT and 79", () -> wordsAndSigns(79, 0, 11, -1), x -> x.read(), -1);
        refuses("read() with a FAULT and 80", () -> wordsAndSigns(80, 0, 11, -1), x -> x.read());
        Nestprint x = wordsAndSigns(79, 0, 11, -1);
        x.read();
        Checks.due("NODES behind a FAULT and 79", x.house(0), 79);
        Checks.due("NODES ever behind a FAULT and 79", x.house(6), 79);
        Checks.due("the 80th behind that", x.word(3, 1), 79);
    }

    private static Nestprint wordsAndSigns(int words, int a, int b, int c) {
        Nestprint x = Checks.withWords(words);
        x.say(a, b, c, -1, -1, -1);
        return x;
    }

    private static void eightieth(String call, Function<Nestprint, Object> made) {
        Nestprint x = Checks.withWords(79);
        Checks.due(call + " with 79", Checks.answer(() -> made.apply(x)), "79");
        Checks.due("NODES behind " + call, x.house(0), 80);
        Checks.due("NODES ever behind " + call, x.house(6), 80);
        Checks.due(call + " with 80", Checks.answer(() -> made.apply(x)), STATE.getSimpleName());
        Checks.due("NODES behind one more " + call, x.house(0), 80);
        Checks.due("NODES ever behind one more " + call, x.house(6), 80);
        refuses(call + " with 80", () -> Checks.withWords(80), made);
    }

    private static void eightyForgotten() {
        Nestprint x = Checks.withWords(80);
        Checks.due("forget() of 80", x.forget(), 80);
        Checks.due("NODES then", x.house(0), 0);
        Checks.due("WEIGHTS then", x.house(7), 0);
        Checks.due("NODES ever then", x.house(6), 80);
        for (int node = 0; node < 80; node++) {
            Checks.due("NODE behind 80 forgotten ones", x.word(25, 9), node);
        }
        Checks.due("one more", Checks.answer(() -> x.word(25, 9)), STATE.getSimpleName());
        Checks.due("the last of them", x.flat(79), "zzzzzzzzz");
        Checks.due("NODES ever of 160", x.house(6), 160);
        Checks.due("WEIGHTS of 80", x.house(7), 80);
    }

    // ---- WEIGHT

    /** A NODE of each WEIGHT, one behind the other. */
    private static Nestprint weights(int... weights) {
        Nestprint x = new Nestprint();
        for (int weight : weights) {
            Checks.read(x, "_".repeat(weight));
        }
        return x;
    }

    private static void weightsOfJoins() {
        takes("join of 59 and 1", () -> weights(59, 1), x -> x.ofNode(x.join(0, 1), 1), 60);
        takes("join of 1 and 59", () -> weights(59, 1), x -> x.ofNode(x.join(1, 0), 1), 60);
        takes("join of 30 twice", () -> weights(30), x -> x.ofNode(x.join(0, 0), 1), 60);
        refuses("join of 60 and 1", () -> weights(60, 1), x -> x.join(0, 1));
        refuses("join of 1 and 60", () -> weights(60, 1), x -> x.join(1, 0));
        refuses("join of 31 and 30", () -> weights(31, 30), x -> x.join(0, 1));
        refuses("join of 31 twice", () -> weights(31), x -> x.join(0, 0));
        refuses("join of 60 twice", () -> weights(60), x -> x.join(0, 0));
    }

    /** A fill has a SOFT between each two, which are LEAVES, too. */
    private static void weightsOfFills() {
        takes("fill of 30 and 29", () -> weights(30, 29), x -> x.ofNode(x.fill(0, 1), 1), 60);
        takes("fill of 1 and 58", () -> weights(1, 58), x -> x.ofNode(x.fill(0, 1), 1), 60);
        takes("fill of 20, 19 and 19", () -> weights(20, 19, 19), x -> x.ofNode(x.fill(0, 2), 1), 60);
        takes("fill of 60 alone", () -> weights(60), x -> x.ofNode(x.fill(0, 0), 1), 60);
        takes("fill of 60 alone, among others", () -> weights(9, 60, 9), x -> x.ofNode(x.fill(1, 1), 1), 60);
        takes("fill of 30 words", () -> Checks.withWords(30), x -> x.ofNode(x.fill(0, 29), 1), 59);
        refuses("fill of 31 words", () -> Checks.withWords(31), x -> x.fill(0, 30));
        refuses("fill of 30 and 30", () -> weights(30, 30), x -> x.fill(0, 1));
        refuses("fill of 1 and 59", () -> weights(1, 59), x -> x.fill(0, 1));
        refuses("fill of 60 and 1", () -> weights(60, 1), x -> x.fill(0, 1));
        refuses("fill of 20, 20 and 19", () -> weights(20, 20, 19), x -> x.fill(0, 2));
        refuses("fill of 79 words", () -> Checks.withWords(79), x -> x.fill(0, 78));
    }

    /** What is over one NODE alone has its WEIGHT: 60 is never too much. */
    private static void weightsOfOthers() {
        takes("nest of 60", () -> weights(60), x -> x.ofNode(x.nest(0, 8), 1), 60);
        takes("align of 60", () -> weights(60), x -> x.ofNode(x.align(0), 1), 60);
        takes("group of 60", () -> weights(60), x -> x.ofNode(x.group(0), 1), 60);
        takes("WEIGHTS of two of 60", () -> weights(60, 60), x -> x.house(7), 120);
        takes("lines of 60 LINES", () -> weights(60), x -> x.measure(0, 0), 61);
        takes("the last line of 60 LINES", () -> weights(60), x -> x.line(0, 60), "");
        takes("the line behind 60 LINES", () -> weights(60), x -> x.line(0, 61), "!");
        Nestprint x = weights(60);
        Checks.due("lines of a NEST of 60 LINES", x.line(x.nest(0, 8), 60), " ".repeat(8));
        Checks.due("its COST in 7", x.would(1, 7, 6), 60 * (10 + 8 + 100));
    }

    // ---- DEPTH

    private static void depths() {
        takes("DEPTH 1", () -> Checks.deep(1), x -> x.ofNode(0, 2), 1);
        takes("DEPTH 20", () -> Checks.deep(20), x -> x.ofNode(19, 2), 20);
        takes("join of 19 and 1", () -> Checks.deep(19), x -> x.ofNode(x.join(18, 0), 2), 20);
        takes("join of 1 and 19", () -> Checks.deep(19), x -> x.ofNode(x.join(0, 18), 2), 20);
        takes("join of 19 twice", () -> Checks.deep(19), x -> x.ofNode(x.join(18, 18), 2), 20);
        takes("nest of 19", () -> Checks.deep(19), x -> x.ofNode(x.nest(18, 8), 2), 20);
        takes("align of 19", () -> Checks.deep(19), x -> x.ofNode(x.align(18), 2), 20);
        takes("group of 19", () -> Checks.deep(19), x -> x.ofNode(x.group(18), 2), 20);
        refuses("join of 20 and 1", () -> Checks.deep(20), x -> x.join(19, 0));
        refuses("join of 1 and 20", () -> Checks.deep(20), x -> x.join(0, 19));
        refuses("join of 20 twice", () -> Checks.deep(20), x -> x.join(19, 19));
        refuses("nest of 20", () -> Checks.deep(20), x -> x.nest(19, 0));
        refuses("align of 20", () -> Checks.deep(20), x -> x.align(19));
        refuses("group of 20", () -> Checks.deep(20), x -> x.group(19));
        takes("a LEAF under 19 others", () -> Checks.deep(20), x -> x.flat(19), "a");
        takes("its line", () -> Checks.deep(20), x -> x.line(19, 0), "a");
        takes("the DEPTH of a JOIN of LEAVES", () -> Checks.withWords(2), x -> x.ofNode(x.join(0, 1), 2), 2);
    }

    private static void depthsOfFills() {
        takes("fill of one of 19", () -> Checks.deep(19), x -> x.ofNode(x.fill(18, 18), 2), 20);
        takes("fill of 18 and 19", () -> Checks.deep(19), x -> x.ofNode(x.fill(17, 18), 2), 20);
        takes("fill of 1 to 19", () -> Checks.deep(19), x -> x.ofNode(x.fill(0, 18), 2), 20);
        takes("fill of a LEAF", () -> Checks.deep(19), x -> x.ofNode(x.fill(0, 0), 2), 2);
        refuses("fill of one of 20", () -> Checks.deep(20), x -> x.fill(19, 19));
        refuses("fill with 20 as the last one", () -> Checks.deep(20), x -> x.fill(18, 19));
        Supplier<Nestprint> more = () -> {
            Nestprint x = Checks.deep(20);
            x.word(1, 1);
            x.word(2, 1);
            return x;
        };
        refuses("fill with 20 as the first one", more, x -> x.fill(19, 21));
        refuses("fill with 20 in the middle", more, x -> x.fill(18, 20));
        takes("fill behind 20", more, x -> x.ofNode(x.fill(20, 21), 2), 2);
    }

    // ---- SIGNS

    private static void noSigns() {
        Nestprint x = new Nestprint();
        Checks.due("typed() without SIGNS", x.typed(), "");
        Checks.due("fault() as a DOCUMENT without SIGNS", x.fault(false), -1);
        Checks.due("fault() as CODE without SIGNS", x.fault(true), 0);
        Checks.due("code() without SIGNS", x.code(), -1);
        Checks.due("say() of nothing", x.say(-1, -1, -1, -1, -1, -1), 0);
        Checks.due("the last one off, of none", x.say(20, -1, -1, -1, -1, -1), 0);
        Checks.due("six off, of none", x.say(20, 20, 20, 20, 20, 20), 0);
        Checks.due("all off, of none", x.say(21, -1, -1, -1, -1, -1), 0);
        Checks.due("one off, of none, and one on", x.say(20, 3, -1, -1, -1, -1), 1);
        Checks.due("typed() then", x.typed(), "d");
        Checks.due("the only one off", x.say(20, -1, -1, -1, -1, -1), 0);
        Checks.due("typed() then", x.typed(), "");
        Checks.due("read() without SIGNS", x.read(), 0);
        int[] facts = {0, 1, 1, 0, 0, 1, 0, 0};
        for (int what = 0; what <= 7; what++) {
            Checks.due("ofNode(.., " + what + ") of a TEXT without SIGNS", x.ofNode(0, what), facts[what]);
        }
        int[] sizes = {1, 0, 0, 0, 0, 0, 0, 0, 0};
        for (int what = 0; what <= 8; what++) {
            Checks.due("measure(.., " + what + ") of a TEXT without SIGNS", x.measure(0, what), sizes[what]);
        }
        Checks.due("its FLAT", x.flat(0), "");
        Checks.due("its line", x.line(0, 0), "");
        Checks.due("the line behind", x.line(0, 1), "!");
        Checks.due("the line of it", x.where(0, 0, false), 0);
        Checks.due("the column of it", x.where(0, 0, true), 0);
        Checks.due("the TEXT behind it", x.where(0, 1, true), -1);
        Checks.due("a sign of it", x.at(0, 0, 0), -9);
        Checks.due("its LEAST", x.least(0, 0), 0);
        Checks.due("its narrowest WIDTH", x.narrowest(0), 1);
    }

    private static void sixtySigns() {
        takes("54 SIGNS and six", () -> Checks.withSigns(54), x -> x.say(0, 0, 0, 0, 0, 0), 60);
        takes("59 SIGNS and one, last", () -> Checks.withSigns(59), x -> x.say(-1, -1, -1, -1, -1, 0), 60);
        takes("59 SIGNS, on and off", () -> Checks.withSigns(59), x -> x.say(0, 20, 0, 20, 0, -1), 60);
        takes("60 SIGNS and nothing", () -> Checks.withSigns(60), x -> x.say(-1, -1, -1, -1, -1, -1), 60);
        takes("60 SIGNS, off and on", () -> Checks.withSigns(60), x -> x.say(20, 0, 20, 0, 20, 0), 60);
        takes("60 SIGNS, two off, two on", () -> Checks.withSigns(60), x -> x.say(20, 20, 0, 0, -1, -1), 60);
        takes("60 SIGNS, one off", () -> Checks.withSigns(60), x -> x.say(20, -1, -1, -1, -1, -1), 59);
        takes("60 SIGNS, all off", () -> Checks.withSigns(60), x -> x.say(21, -1, -1, -1, -1, -1), 0);
        takes("60 SIGNS, all off and five on", () -> Checks.withSigns(60), x -> x.say(21, 0, 1, 2, 3, 4), 5);
        Nestprint x = Checks.withSigns(60);
        Checks.due("typed() of 60", x.typed(), "abcdef".repeat(10));
        Checks.due("house(3) of 60", x.house(3), 60);
        x.say(20, 19, -1, -1, -1, -1);
        Checks.due("typed() with another 60th", x.typed(), "abcdef".repeat(9) + "abcde*");
    }

    private static void oneSignMore() {
        refuses("60 SIGNS and one", () -> Checks.withSigns(60), x -> x.say(0, -1, -1, -1, -1, -1));
        refuses("60 SIGNS and one, last", () -> Checks.withSigns(60), x -> x.say(-1, -1, -1, -1, -1, 19));
        refuses("60 SIGNS, one more, off again", () -> Checks.withSigns(60), x -> x.say(0, 20, -1, -1, -1, -1));
        refuses("60 SIGNS, one more, all off", () -> Checks.withSigns(60), x -> x.say(0, 21, -1, -1, -1, -1));
        refuses("60 SIGNS, one off, two on, all off", () -> Checks.withSigns(60), x -> x.say(20, 0, 0, 20, 21, -1));
        refuses("55 SIGNS and six", () -> Checks.withSigns(55), x -> x.say(0, 0, 0, 0, 0, 0));
        refuses("59 SIGNS, two on, one off", () -> Checks.withSigns(59), x -> x.say(0, 0, 20, -1, -1, -1));
        refuses("56 SIGNS, five on, one off", () -> Checks.withSigns(56), x -> x.say(0, 0, 0, 0, 0, 20));
    }

    private static void sixtySignsRead() {
        Nestprint x = new Nestprint();
        Checks.due("read() of 60 LINES", Checks.read(x, "_".repeat(60)), 0);
        Checks.due("its WEIGHT", x.ofNode(0, 1), 60);
        Checks.due("read() of 60 letters", Checks.read(x, "abcdef".repeat(10)), 1);
        Checks.due("its WEIGHT", x.ofNode(1, 1), 1);
        Checks.due("its FLAT", x.ofNode(1, 4), 60);
        Checks.due("read() of 60 with FAULT 60", Checks.read(x, "[" + "a".repeat(59)), -1);
        Checks.due("FAULT 60 as a DOCUMENT", x.fault(false), 60);
        Checks.due("FAULT 59", fault("a".repeat(59) + "]", false), 59);
        Checks.due("FAULT 60 as CODE", fault("(" + "a".repeat(59), true), 60);
        Checks.due("FAULT 60 behind a +", fault("a".repeat(59) + "+", true), 60);
        Checks.due("FAULT 59 as CODE", fault("a".repeat(59) + "]", true), 59);
        Checks.due("no FAULT in 60", fault("[" + "a".repeat(58) + "]", true), -1);
        Checks.due("code() of a NAME of 60", Checks.code(x, "a".repeat(60)), 1);
        Checks.due("its plain()", x.plain(), "a".repeat(60));
        Checks.due("code() of 30 NAMES", Checks.code(x, "a+".repeat(29) + "ab"), 30);
        Checks.due("its plain()", x.plain(), "a+".repeat(29) + "ab");
        Checks.due("length of it", x.ofCode(7), 60);
        Checks.due("WEIGHT of its DOCUMENT", x.ofCode(8), 30 + 2 * 29);
        Checks.due("its lines", x.ofCode(9), 30);
        Checks.due("its last line", x.codeLine(29), "+ab");
        Checks.due("code() of 30 FACTORS", Checks.code(x, "a*".repeat(29) + "ab"), 30);
        Checks.due("its line", x.codeLine(0), "a*".repeat(29) + "ab");
        Checks.due("code() of 29 ARGUMENTS", Checks.code(x, "[" + "a,".repeat(28) + "ab]"), 29);
        Checks.due("its lines", x.ofCode(9), 31);
    }

    private static int fault(String typed, boolean isCode) {
        Nestprint x = new Nestprint();
        Checks.type(x, typed);
        return x.fault(isCode);
    }

    // ---- brackets

    private static void bracketsOfDocuments() {
        String[] fours = {"[[[[", "{{{{", "<<<<", "[{<[", "<{[<", "a[b_{c<[d", "[]{}<>[[[[", "[[][{}{<"};
        for (String four : fours) {
            StringBuilder closers = new StringBuilder();
            for (char sign : four.replaceAll("\\[\\]|\\{\\}|<>", "").toCharArray()) {
                int place = "[{<".indexOf(sign);
                closers.insert(0, place < 0 ? "" : "]}>".substring(place, place + 1));
            }
            Checks.due("FAULT of " + four, fault(four, false), four.length());
            Checks.due("FAULT of " + four + closers, fault(four + closers, false), -1);
            for (String fifth : new String[] {"[", "{", "<"}) {
                Checks.due("FAULT of " + four + fifth, fault(four + fifth, false), four.length());
                Checks.due("FAULT of " + four + "a" + fifth, fault(four + "a" + fifth, false), four.length() + 1);
            }
        }
        Checks.due("a fifth when one is closed", fault("[[[[][]{}<>]]]", false), -1);
        Checks.due("twice 4", fault("[[[[a]]]]<<<<a>>>>", false), -1);
        Checks.due("a fifth that is closed", fault("[[[[{}]]]]", false), 4);
        Checks.due("a closing one too much", fault("[[[[]]]]]", false), 8);
        Checks.due("a closing one of another kind", fault("[[[{>", false), 4);
        Nestprint x = new Nestprint();
        Checks.due("read() of 4", Checks.read(x, "a[b_{c<[d_]>}]"), 0);
        Checks.due("its DEPTH", x.ofNode(0, 2), 9);
        Checks.due("the deepest of 4", Checks.read(x, "[a[a[a[a_]]]]"), 1);
        Checks.due("its DEPTH", x.ofNode(1, 2), 9);
        Checks.due("the deepest of all", Checks.read(x, "a[a[a[a[a_]]]]"), 2);
        Checks.due("its DEPTH", x.ofNode(2, 2), 10);
        Checks.due("read() of 5", Checks.read(x, "[[[[[]]]]]"), -1);
        Checks.due("NODES then", x.house(0), 3);
        Checks.due("NODES ever then", x.house(6), 3);
    }

    private static void bracketsOfCode() {
        String[] fours = {"((((", "[[[[", "a(a(a(a(", "[(a([", "([a((", "a()+((([", "[a,(b)*[c(("};
        for (String four : fours) {
            Checks.due("FAULT of " + four, fault(four, true), four.length());
            for (String fifth : new String[] {"(", "[", "a("}) {
                Checks.due("FAULT of " + four + fifth, fault(four + fifth, true), four.length() + fifth.length() - 1);
            }
        }
        Checks.due("4 of (", fault("((((a))))", true), -1);
        Checks.due("4 of [", fault("[[[[]]]]", true), -1);
        Checks.due("4 of calls", fault("a(a(a(a())))", true), -1);
        Checks.due("4 of each", fault("[(a([b]))]", true), -1);
        Checks.due("a fifth when one is closed", fault("[[[[],[],a(),(a)]]]", true), -1);
        Checks.due("twice 4", fault("((((a))))*[[[[a]]]]", true), -1);
        Checks.due("a fifth that is closed", fault("[[[[[]]]]]", true), 4);
        Checks.due("a closing one too much", fault("((((a)))))", true), 9);
    }

    private static void fifthOnes() {
        Nestprint x = new Nestprint();
        Checks.due("code() of 4", Checks.code(x, "a(b([(c)]))"), 3);
        Checks.due("code() of 5", Checks.code(x, "a(b([([d])]))"), -1);
        Checks.due("plain() stays", x.plain(), "a(b([c]))");
        Checks.due("code() of 4 of (", Checks.code(x, "((((a))))"), 1);
        Checks.due("its plain()", x.plain(), "a");
        Checks.due("code() of 5 of (", Checks.code(x, "(((((b)))))"), -1);
        Checks.due("plain() stays", x.plain(), "a");
    }

    // ---- CODE

    private static void noCode() {
        Nestprint x = new Nestprint();
        for (int what = 0; what <= 9; what++) {
            Checks.due("ofCode(" + what + ") without CODE", x.ofCode(what), 0);
        }
        Checks.due("plain() without CODE", x.plain(), "");
        Checks.due("codeLine(0) without CODE", x.codeLine(0), "!");
        Checks.due("isSound() without CODE", x.isSound(), true);
        Checks.type(x, "a(");
        Checks.due("code() with a FAULT", x.code(), -1);
        for (int what = 0; what <= 9; what++) {
            Checks.due("ofCode(" + what + ") behind a FAULT", x.ofCode(what), 0);
        }
        Checks.due("plain() behind a FAULT", x.plain(), "");
        Checks.due("codeLine(0) behind a FAULT", x.codeLine(0), "!");
        Checks.due("code() without NAMES", Checks.code(x, "[]"), 0);
        int[] due = {1, 0, 0, 1, 0, 0, 1, 2, 1, 1};
        for (int what = 0; what <= 9; what++) {
            Checks.due("ofCode(" + what + ") of []", x.ofCode(what), due[what]);
        }
        Checks.due("codeLine(0) of []", x.codeLine(0), "[]");
        Checks.due("codeLine(1) of []", x.codeLine(1), "!");
    }

    private static void codeThatStays() {
        Nestprint x = new Nestprint();
        Checks.code(x, "a+b");
        Checks.type(x, "");
        Checks.due("code() without SIGNS", x.code(), -1);
        x.forget();
        x.read();
        Checks.due("fault(true)", x.fault(true), 0);
        Checks.due("plain() stays", x.plain(), "a+b");
        Checks.due("ofCode(0) stays", x.ofCode(0), 1);
        Checks.due("ofCode(4) stays", x.ofCode(4), 1);
        Checks.due("codeLine(0) stays", x.codeLine(0), "a +b");
        Checks.due("typed() stays", x.typed(), "");
    }

    // ---- what is counted

    private static void counters() {
        Nestprint x = new Nestprint();
        Checks.due("-9 told at first", x.house(4), 0);
        Checks.due("blank()", x.blank(), -9);
        Checks.due("-9 told once", x.house(4), 1);
        x.word(0, 1);
        Checks.due("at() of a sign", x.at(0, 0, 0), 1);
        Checks.due("at() of none", x.at(0, 0, 1), -9);
        Checks.due("-9 told twice", x.house(4), 2);
        Checks.refused("at(1, 0, 1)", x, INDEX, () -> x.at(1, 0, 1));
        Checks.due("knocked at first", x.house(5), 0);
        Checks.due("knock()", x.knock(), 1);
        Checks.due("knock() again", x.knock(), 2);
        x.forget();
        x.say(21, -1, -1, -1, -1, -1);
        Checks.due("knock() ever", x.knock(), 3);
        Checks.due("knocked ever", x.house(5), 3);
        Checks.due("-9 told ever", x.house(4), 2);
    }

    /** An object is used for 512 calls: the last of them is answered as all are. */
    private static void allCalls() {
        Nestprint x = new Nestprint();
        x.word(1, 2);
        for (int call = 2; call <= 510; call++) {
            Checks.due("knock() as call " + call, x.knock(), call - 1);
        }
        Checks.due("call 511", x.line(0, 0), "bb");
        Checks.due("call 512", x.house(5), 509);
    }
}
