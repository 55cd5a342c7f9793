/** Promises 1 to 9: how nodes are made, and forgotten. */
public final class NodesTest {
    private static final Class<?> ARGUMENT = IllegalArgumentException.class;
    private static final Class<?> STATE = IllegalStateException.class;
    private static final Class<?> INDEX = IndexOutOfBoundsException.class;

    public static void main(String[] args) {
        aNewObject();
        words();
        marks();
        joins();
        joinsOfTooMuch();
        nests();
        alignsAndGroups();
        fills();
        fillsOfTooMuch();
        forgotten();
        forgottenOften();
        readOften("_".repeat(60), " ".repeat(60));
        readOften("abcdef".repeat(10), "abcdef".repeat(10));
        readOften("[a]".repeat(20), "a".repeat(20));
        bigOnes();
        deepOnes();
        shared();
        Checks.end();
    }

    private static void aNewObject() {
        Nestprint x = new Nestprint();
        int[] due = {0, 20, 60, 0, 0, 0, 0, 0};
        for (int what = 0; what <= 7; what++) {
            Checks.due("new: house(" + what + ")", x.house(what), due[what]);
        }
        Checks.due("new: typed()", x.typed(), "");
        Checks.due("new: plain()", x.plain(), "");
        Checks.refused("new: flat(0)", x, INDEX, () -> x.flat(0));
    }

    private static void words() {
        Nestprint x = new Nestprint();
        Checks.due("word(0, 1)", x.word(0, 1), 0);
        Checks.due("word(25, 9)", x.word(25, 9), 1);
        Checks.due("word(2, 3)", x.word(2, 3), 2);
        Checks.due("flat(0)", x.flat(0), "a");
        Checks.due("flat(1)", x.flat(1), "zzzzzzzzz");
        Checks.due("flat(2)", x.flat(2), "ccc");
        Checks.due("ofNode(1, 0)", x.ofNode(1, 0), 0);
        Checks.refused("word(-1, 1)", x, ARGUMENT, () -> x.word(-1, 1));
        Checks.refused("word(26, 1)", x, ARGUMENT, () -> x.word(26, 1));
        Checks.refused("word(0, 0)", x, ARGUMENT, () -> x.word(0, 0));
        Checks.refused("word(0, 10)", x, ARGUMENT, () -> x.word(0, 10));
        Checks.refused("word(least int, 1)", x, ARGUMENT, () -> x.word(Integer.MIN_VALUE, 1));
        Checks.refused("word(0, most int)", x, ARGUMENT, () -> x.word(0, Integer.MAX_VALUE));
    }

    private static void marks() {
        Nestprint x = new Nestprint();
        for (int kind = 1; kind <= 4; kind++) {
            Checks.due("mark(" + kind + ")", x.mark(kind), kind - 1);
            Checks.due("KIND of mark " + kind, x.ofNode(kind - 1, 0), kind);
        }
        Checks.due("flat of LINE", x.flat(0), " ");
        Checks.due("flat of CUT", x.flat(1), "");
        Checks.due("flat of HARD", x.flat(2), "!");
        Checks.due("flat of SOFT", x.flat(3), " ");
        Checks.refused("mark(0)", x, ARGUMENT, () -> x.mark(0));
        Checks.refused("mark(5)", x, ARGUMENT, () -> x.mark(5));
        Checks.refused("mark(-1)", x, ARGUMENT, () -> x.mark(-1));
    }

    private static void joins() {
        Nestprint x = new Nestprint();
        x.word(0, 2);
        x.word(1, 1);
        Checks.due("join(0, 1)", x.join(0, 1), 2);
        Checks.due("join(1, 0)", x.join(1, 0), 3);
        Checks.due("join(2, 2)", x.join(2, 2), 4);
        Checks.due("flat(2)", x.flat(2), "aab");
        Checks.due("flat(3)", x.flat(3), "baa");
        Checks.due("flat(4)", x.flat(4), "aabaab");
        Checks.due("KIND of a join", x.ofNode(4, 0), 5);
        Checks.due("WEIGHT of a join", x.ofNode(4, 1), 4);
        Checks.due("DEPTH of a join", x.ofNode(4, 2), 3);
        Checks.refused("join(5, 0)", x, INDEX, () -> x.join(5, 0));
        Checks.refused("join(0, 5)", x, INDEX, () -> x.join(0, 5));
        Checks.refused("join(-1, 0)", x, INDEX, () -> x.join(-1, 0));
        Checks.refused("join(0, -1)", x, INDEX, () -> x.join(0, -1));
    }

    private static void joinsOfTooMuch() {
        Nestprint x = new Nestprint();
        x.word(0, 1);
        for (int node = 0; node < 5; node++) {
            x.join(node, node);
        }
        int weight48 = x.join(5, 4);
        int weight56 = x.join(weight48, 3);
        int weight60 = x.join(weight56, 2);
        Checks.due("WEIGHT of 60", x.ofNode(weight60, 1), 60);
        Checks.refused("a WEIGHT of 61", x, STATE, () -> x.join(weight60, 0));
        Checks.refused("a WEIGHT of 64", x, STATE, () -> x.join(5, 5));
        Checks.refused("too much WEIGHT, no such node", x, INDEX, () -> x.join(weight60, 99));
        Nestprint deep = Checks.deep(19);
        Checks.due("a join of DEPTH 20", deep.join(0, 18), 19);
        Checks.due("DEPTH of 20", deep.ofNode(19, 2), 20);
        Checks.refused("a join of DEPTH 21", deep, STATE, () -> deep.join(19, 0));
        Checks.refused("a join of DEPTH 21, the other way", deep, STATE, () -> deep.join(0, 19));
    }

    private static void nests() {
        Nestprint x = new Nestprint();
        x.word(0, 1);
        Checks.due("nest(0, 0)", x.nest(0, 0), 1);
        Checks.due("nest(0, 8)", x.nest(0, 8), 2);
        Checks.due("KIND of a nest", x.ofNode(1, 0), 6);
        Checks.due("by of nest(0, 0)", x.ofNode(1, 7), 0);
        Checks.due("by of nest(0, 8)", x.ofNode(2, 7), 8);
        Checks.due("DEPTH of a nest", x.ofNode(2, 2), 2);
        Checks.due("WEIGHT of a nest", x.ofNode(2, 1), 1);
        Checks.refused("nest(0, -1)", x, ARGUMENT, () -> x.nest(0, -1));
        Checks.refused("nest(0, 9)", x, ARGUMENT, () -> x.nest(0, 9));
        Checks.refused("nest(3, 1)", x, INDEX, () -> x.nest(3, 1));
        Checks.refused("nest(3, 9)", x, INDEX, () -> x.nest(3, 9));
        Checks.refused("nest(-1, 9)", x, INDEX, () -> x.nest(-1, 9));
        Nestprint deep = Checks.deep(20);
        Checks.due("DEPTH 20", deep.ofNode(19, 2), 20);
        Checks.refused("a nest of DEPTH 21", deep, STATE, () -> deep.nest(19, 1));
        Checks.refused("a nest of DEPTH 21 by 9", deep, ARGUMENT, () -> deep.nest(19, 9));
    }

    private static void alignsAndGroups() {
        Nestprint x = new Nestprint();
        x.word(0, 1);
        Checks.due("align(0)", x.align(0), 1);
        Checks.due("group(0)", x.group(0), 2);
        Checks.due("group(1)", x.group(1), 3);
        Checks.due("KIND of an align", x.ofNode(1, 0), 7);
        Checks.due("KIND of a group", x.ofNode(2, 0), 8);
        Checks.due("DEPTH of a group of an align", x.ofNode(3, 2), 3);
        Checks.due("WEIGHT of a group of an align", x.ofNode(3, 1), 1);
        Checks.refused("align(4)", x, INDEX, () -> x.align(4));
        Checks.refused("align(-1)", x, INDEX, () -> x.align(-1));
        Checks.refused("group(4)", x, INDEX, () -> x.group(4));
        Checks.refused("group(-1)", x, INDEX, () -> x.group(-1));
        Nestprint deep = Checks.deep(20);
        Checks.refused("an align of DEPTH 21", deep, STATE, () -> deep.align(19));
        Checks.refused("a group of DEPTH 21", deep, STATE, () -> deep.group(19));
        Checks.due("an align of DEPTH 20", deep.align(18), 20);
        Checks.due("a group of DEPTH 20", deep.group(18), 21);
    }

    private static void fills() {
        Nestprint x = Checks.withWords(4);
        Checks.due("fill(0, 2)", x.fill(0, 2), 4);
        Checks.due("its KIND", x.ofNode(4, 0), 5);
        Checks.due("its WEIGHT", x.ofNode(4, 1), 5);
        Checks.due("its DEPTH", x.ofNode(4, 2), 2);
        Checks.due("its TEXTS", x.ofNode(4, 5), 3);
        Checks.due("its SOFTS", x.ofNode(4, 6), 2);
        Checks.due("its FLAT", x.flat(4), "a b c");
        Checks.due("NODES, without the SOFTS", x.house(0), 5);
        Checks.due("NODES with a number ever", x.house(6), 5);
        Checks.due("fill(3, 3)", x.fill(3, 3), 5);
        Checks.due("KIND of a fill of one", x.ofNode(5, 0), 5);
        Checks.due("WEIGHT of a fill of one", x.ofNode(5, 1), 1);
        Checks.due("DEPTH of a fill of one", x.ofNode(5, 2), 2);
        Checks.due("FLAT of a fill of one", x.flat(5), "d");
        Checks.due("fill(3, 4)", x.fill(3, 4), 6);
        Checks.due("FLAT of a fill with a fill", x.flat(6), "d a b c");
        Checks.due("DEPTH of a fill with a fill", x.ofNode(6, 2), 3);
        Checks.refused("fill(1, 0)", x, ARGUMENT, () -> x.fill(1, 0));
        Checks.refused("fill(0, 7)", x, INDEX, () -> x.fill(0, 7));
        Checks.refused("fill(7, 0)", x, INDEX, () -> x.fill(7, 0));
        Checks.refused("fill(-1, 0)", x, INDEX, () -> x.fill(-1, 0));
        Checks.refused("fill(0, -1)", x, INDEX, () -> x.fill(0, -1));
    }

    private static void fillsOfTooMuch() {
        Nestprint x = Checks.withWords(31);
        Checks.refused("a fill of WEIGHT 61", x, STATE, () -> x.fill(0, 30));
        Checks.due("a fill of WEIGHT 59", x.fill(0, 29), 31);
        Checks.due("its WEIGHT", x.ofNode(31, 1), 59);
        Checks.refused("a fill of WEIGHT 61 of two", x, STATE, () -> x.fill(30, 31));
        Nestprint even = Checks.withWords(29);
        even.join(0, 0);
        Checks.due("a fill with a join", even.fill(1, 29), 30);
        Checks.due("its WEIGHT", even.ofNode(30, 1), 58);
        Checks.due("a fill of WEIGHT 60", even.fill(0, 29), 31);
        Checks.due("its WEIGHT", even.ofNode(31, 1), 60);
        Nestprint late = Checks.withWords(31);
        late.join(0, 0);
        Checks.due("a fill of WEIGHT 60, not from 0 on", late.fill(2, 31), 32);
        Checks.due("its WEIGHT", late.ofNode(32, 1), 60);
        Checks.refused("a fill of WEIGHT 62, not from 0 on", late, STATE, () -> late.fill(1, 31));
        Nestprint deep = Checks.deep(20);
        Checks.refused("a fill of DEPTH 21", deep, STATE, () -> deep.fill(18, 19));
        Checks.refused("a fill of one, of DEPTH 21", deep, STATE, () -> deep.fill(19, 19));
        Checks.due("a fill of DEPTH 20", deep.fill(17, 18), 20);
        Checks.due("its DEPTH", deep.ofNode(20, 2), 20);
    }

    private static void forgotten() {
        Nestprint x = Checks.withWords(3);
        Checks.type(x, "ab");
        x.code();
        Checks.due("forget() of 3", x.forget(), 3);
        Checks.due("forget() of none", x.forget(), 0);
        Checks.due("NODES then", x.house(0), 0);
        Checks.due("NODES ever", x.house(6), 3);
        Checks.due("WEIGHTS then", x.house(7), 0);
        Checks.due("typed() stays", x.typed(), "ab");
        Checks.due("plain() stays", x.plain(), "ab");
        Checks.refused("flat(0) then", x, INDEX, () -> x.flat(0));
        Checks.due("the next one", x.word(9, 2), 0);
        Checks.due("its FLAT", x.flat(0), "jj");
        Checks.due("NODES ever then", x.house(6), 4);
        Checks.read(x, "[ab_<c>]");
        x.join(1, 0);
        Checks.due("forget() of three more", x.forget(), 3);
        Checks.due("a nest behind that", x.nest(x.join(x.word(3, 2), x.mark(1)), 7), 3);
        Checks.due("its FLAT", x.flat(3), "dd ");
        Checks.due("its lines", Checks.lines(x, 3), "dd|" + " ".repeat(7));
        Checks.due("its DEPTH", x.ofNode(3, 2), 3);
        Checks.due("WEIGHTS then", x.house(7), 6);
        Nestprint full = Checks.withWords(80);
        Checks.due("forget() of 80", full.forget(), 80);
        Checks.due("a word behind that", full.word(1, 1), 0);
    }

    private static void forgottenOften() {
        Nestprint x = new Nestprint();
        Checks.type(x, "abcdef".repeat(8) + "a,b,c,d,e,f,");
        for (int round = 0; round < 2; round++) {
            for (int node = 0; node < 80; node++) {
                Checks.due("read() in round " + round, x.read(), node);
            }
            Checks.due("the last one in round " + round, x.flat(79), "abcdef".repeat(9));
            Checks.due("forget() in round " + round, x.forget(), 80);
        }
    }

    private static void readOften(String typed, String flat) {
        Nestprint x = new Nestprint();
        Checks.type(x, typed);
        for (int node = 0; node < 80; node++) {
            x.read();
        }
        Checks.due("all 80 of " + typed, x.house(0), 80);
        Checks.due("FLAT of the first one", x.flat(0), flat);
        Checks.due("FLAT of the last one", x.flat(79), flat);
    }

    /** 60 leaves, each in 13 groups: the most steps that are easily made. */
    private static void bigOnes() {
        Nestprint x = new Nestprint();
        int leaf = x.mark(2);
        for (int depth = 2; depth <= 14; depth++) {
            leaf = depth % 3 == 0 ? x.nest(leaf, 1) : x.group(leaf);
        }
        int two = x.join(leaf, leaf);
        int four = x.join(two, two);
        int eight = x.join(four, four);
        int sixteen = x.join(eight, eight);
        int all = x.join(x.join(sixteen, sixteen), x.join(sixteen, x.join(eight, four)));
        Checks.due("WEIGHT of a big one", x.ofNode(all, 1), 60);
        Checks.due("DEPTH of a big one", x.ofNode(all, 2), 20);
        Checks.due("GROUPS of a big one", x.ofNode(all, 6), 60 * 9);
        Checks.due("flat ones of a big one", x.measure(all, 7), 60 * 9);
        Checks.due("isOne() of the last one", x.isOne(all, 60 * 9 - 1), 1);
        Checks.due("isOne() behind it", x.isOne(all, 60 * 9), -1);
        Checks.due("isSound() with a big one", x.isSound(), true);
        int lines = x.mark(1);
        for (int node = 0; node < 5; node++) {
            lines = x.join(lines, lines);
        }
        Checks.due("lines of 60 LINES", x.measure(x.join(lines, x.join(lines - 1, x.join(lines - 2, lines - 3))), 0), 61);
    }

    /** Many nodes in one another: all of them count. */
    private static void deepOnes() {
        Nestprint x = new Nestprint();
        int node = x.join(x.mark(1), x.word(0, 1));
        for (int depth = 3; depth <= 20; depth++) {
            node = depth % 2 == 0 ? x.group(node) : x.nest(node, 1);
        }
        Checks.due("DEPTH 20", x.ofNode(node, 2), 20);
        Checks.due("FLAT of DEPTH 20", x.flat(node), " a");
        Checks.due("GROUPS of DEPTH 20", x.ofNode(node, 6), 9);
        x.width(1);
        Checks.due("lines of DEPTH 20", Checks.lines(x, node), "|" + " ".repeat(9) + "a");
        Checks.due("LEAST of DEPTH 20", x.least(node, 0), 100);
        Checks.due("isSound() with DEPTH 20", x.isSound(), true);
        Checks.due("WEIGHTS with DEPTH 20", x.house(7), 1 + 1 + 2 * 19);
    }

    private static void shared() {
        Nestprint x = new Nestprint();
        x.word(0, 1);
        x.mark(1);
        x.join(0, 1);
        x.join(2, 0);
        int group = x.group(3);
        int both = x.join(group, x.join(1, group));
        x.width(4);
        Checks.due("one node in several others", Checks.lines(x, both), "a a|a a");
        x.width(2);
        Checks.due("one node in several others, narrow", Checks.lines(x, both), "a|a|a|a");
    }
}
