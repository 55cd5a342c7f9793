/** Promises 17 to 24: what is asked of nodes, and the layout itself. */
public final class AskedTest {
    private static final Class<?> ARGUMENT = IllegalArgumentException.class;
    private static final Class<?> STATE = IllegalStateException.class;
    private static final Class<?> INDEX = IndexOutOfBoundsException.class;

    public static void main(String[] args) {
        facts();
        flats();
        groups();
        softs();
        nestsAndAligns();
        whatFollows();
        ribbons();
        openOnes();
        linesAsked();
        measures();
        columns();
        places();
        ones();
        differences();
        oneBehindTheOther();
        wrongArguments();
        Checks.end();
    }

    private static void laid(String typed, int width, String lines) {
        Nestprint x = new Nestprint();
        x.width(width);
        Checks.due(typed + " in " + width, Checks.lines(x, Checks.read(x, typed)), lines);
    }

    private static void factsOf(String typed, int... due) {
        Nestprint x = new Nestprint();
        int node = Checks.read(x, typed);
        for (int what = 0; what < due.length; what++) {
            Checks.due("ofNode(.., " + what + ") of " + typed, x.ofNode(node, what), due[what]);
        }
    }

    private static void facts() {
        factsOf("ab", 0, 1, 1, 0, 2, 1, 0, 0);
        factsOf("~", 4, 1, 1, 0, 1, 0, 1, 0);
        factsOf(";", 3, 1, 1, 1, -1, 0, 0, 0);
        factsOf("[a_b~c,d]", 8, 7, 3, 0, 6, 4, 2, 0);
        factsOf("[a;b]", 8, 3, 3, 1, -1, 2, 1, 0);
        factsOf("<a_[b]>", 6, 3, 4, 0, 3, 2, 1, 2);
        factsOf("{[]~[[]]}", 7, 3, 5, 0, 1, 2, 4, 0);
        Nestprint x = new Nestprint();
        int soft = x.mark(4);
        int group = x.group(x.join(soft, soft));
        int twice = x.group(x.join(group, group));
        Checks.due("GROUPS and SOFTS, each as often as it comes", x.ofNode(twice, 6), 7);
        Checks.due("by of a group of a nest", x.ofNode(x.group(x.nest(soft, 5)), 7), 0);
        Checks.due("by of a nest of a nest", x.ofNode(x.nest(x.nest(soft, 5), 3), 7), 3);
    }

    private static void flats() {
        Nestprint x = new Nestprint();
        Checks.due("flat", x.flat(Checks.read(x, "ab_c,d~{ef}<_a>")), "ab cd ef a");
        Checks.due("flat of an OPEN one", x.flat(Checks.read(x, "a;b")), "!");
        Checks.due("flat of a hidden HARD", x.flat(Checks.read(x, "a[b{c<d;>}]")), "!");
        Checks.due("flat of nothing", x.flat(Checks.read(x, "")), "");
        x.width(1);
        Checks.due("flat in WIDTH 1", x.flat(Checks.read(x, "[a_b_c]")), "a b c");
    }

    private static void groups() {
        laid("a_b", 60, "a|b");
        laid("a,b", 60, "a|b");
        laid("[aaa_bbb]", 7, "aaa bbb");
        laid("[aaa_bbb]", 6, "aaa|bbb");
        laid("[aaa,bbb]", 6, "aaabbb");
        laid("[aaa,bbb]", 5, "aaa|bbb");
        laid("[a_[b_c]]", 4, "a|b c");
        laid("[a_[b_c]]", 5, "a b c");
        laid("[a_[b_c]]", 2, "a|b|c");
        laid("[[a_b]_c]", 3, "a b|c");
        laid("[]", 1, "");
        laid("", 1, "");
        laid("_", 1, "|");
        laid("[_]", 1, " ");
        laid("a[_]b[_]c", 3, "a b|c");
    }

    private static void softs() {
        laid("aa~bb~cc", 5, "aa bb|cc");
        laid("aa~bb~cc", 4, "aa|bb|cc");
        laid("aa~bb~cc", 8, "aa bb cc");
        laid("~", 1, " ");
        laid("a~", 1, "a|");
        laid("a~", 2, "a ");
        laid("[a~b~c]", 5, "a b c");
        laid("[a~b~c]", 4, "a b|c");
        laid("[a~b_c]", 4, "a b|c");
        laid("<a~b>~c", 2, "a|  b|c");
    }

    private static void nestsAndAligns() {
        laid("a<_b<_c>_d>_e", 60, "a|  b|    c|  d|e");
        laid("aa{b_c{d_e}_f}_a", 60, "aab|  cd|   e|  f|a");
        laid("<{a_b}_c>", 60, "a|b|  c");
        laid("a{<b_c>}", 60, "ab|   c");
        laid("a<{b_c}>", 60, "ab| c");
        laid("<_{_}_>", 60, "|  |  |  ");
        laid("[aa<_bb>]", 4, "aa|  bb");
        Nestprint x = new Nestprint();
        int body = x.join(x.mark(1), x.word(0, 1));
        int deep = x.nest(x.nest(body, 8), 8);
        Checks.due("nests add up", x.line(deep, 1), " ".repeat(16) + "a");
        Checks.due("a nest by 0", x.line(x.nest(body, 0), 1), "a");
    }

    private static void whatFollows() {
        laid("[a_b]ccc", 5, "a|bccc");
        laid("[a_b]ccc", 6, "a bccc");
        laid("[a_b]c_ccccc", 4, "a bc|ccccc");
        laid("[a_b]c,ccccc", 4, "a bc|ccccc");
        laid("[a_b]c;ccccc", 4, "a bc|ccccc");
        laid("[a_b]c~ccccc", 4, "a bc|ccccc");
        laid("[[a_b]c]{<d>}[e]f", 6, "a|bcdef");
        laid("[[a_b]c]{<d>}[e]f", 7, "a bcdef");
        laid("[a_b][c_d]", 4, "a bc|d");
        laid("[a_b][c_d]", 3, "a|bc|d");
        laid("a~bb[c]d", 5, "a|bbcd");
        laid("a~bb[c]d", 6, "a bbcd");
        laid("a~bb[c_d]e", 5, "a bbc|de");
        // What follows is of all that is laid out, not of the GROUP around alone.
        laid("[[a_b]]cc", 4, "a|bcc");
    }

    private static void ribbons() {
        Nestprint x = new Nestprint();
        x.width(20);
        x.ribbon(3);
        Checks.due("a RIBBON of 3 from 0 on", Checks.lines(x, Checks.read(x, "[aa_b]")), "aa|b");
        x.ribbon(4);
        Checks.due("a RIBBON of 4 from 0 on", Checks.lines(x, Checks.read(x, "[aa_b]")), "aa b");
        x.ribbon(3);
        Checks.due("a RIBBON behind blanks", Checks.lines(x, Checks.read(x, "<_<[a_b]>_[aa_b]>")), "|  a b|  aa|  b");
        Checks.due("an ALIGN on the first line gives it none", Checks.lines(x, Checks.read(x, "aa{[b_c]}")), "aab|  c");
        x.width(5);
        x.ribbon(4);
        Checks.due("RIGHT is WIDTH at most", Checks.lines(x, Checks.read(x, "<_[a_b]_[aa_b]>")), "|  a b|  aa|  b");
        Nestprint y = new Nestprint();
        y.width(10);
        y.ribbon(5);
        int node = Checks.read(y, "<_aa~bb~cc>");
        Checks.due("a SOFT in a RIBBON", Checks.lines(y, node), "|  aa bb|  cc");
        Checks.due("COST has no RIBBON", y.measure(node, 6), 24);
        Checks.due("signs beyond have no RIBBON", y.measure(node, 5), 0);
    }

    private static void openOnes() {
        laid("a;b", 60, "a|b");
        laid("[a_b;c]", 60, "a|b|c");
        laid("[a_[b_c];d]", 60, "a|b c|d");
        laid("<a;b>", 60, "a|  b");
        laid("a{b;c}", 60, "ab| c");
        laid("[a~b;c]", 60, "a b|c");
    }

    private static void linesAsked() {
        Nestprint x = new Nestprint();
        int node = Checks.read(x, "a<_b>");
        Checks.due("line(.., 0)", x.line(node, 0), "a");
        Checks.due("line(.., 1)", x.line(node, 1), "  b");
        Checks.due("line(.., 2)", x.line(node, 2), "!");
        Checks.due("line(.., most int)", x.line(node, Integer.MAX_VALUE), "!");
        Checks.due("an empty line", x.line(Checks.read(x, ""), 0), "");
    }

    private static void measured(Nestprint x, int node, int... due) {
        for (int what = 0; what < due.length; what++) {
            Checks.due("measure(.., " + what + ") in " + x.house(1), x.measure(node, what), due[what]);
        }
    }

    private static void measures() {
        Nestprint x = new Nestprint();
        int node = Checks.read(x, "[aa<_bbb_cc>]dd");
        x.width(12);
        measured(x, node, 1, 11, 9, 0, 2, 0, 0, 1, 11);
        x.width(6);
        measured(x, node, 3, 6, 9, 4, 0, 0, 24, 0, 6);
        x.width(5);
        measured(x, node, 3, 6, 9, 4, 0, 1, 124, 0, 6);
        x.width(1);
        measured(x, node, 3, 6, 9, 4, 0, 10, 1024, 0, 6);
        int soft = Checks.read(x, "aa~[b_c]~[d]~,");
        x.width(6);
        measured(x, soft, 3, 6, 5, 0, 3, 0, 20, 4, 0);
        x.width(4);
        measured(x, soft, 3, 4, 5, 0, 3, 0, 20, 4, 0);
        int nothing = Checks.read(x, "");
        measured(x, nothing, 1, 0, 0, 0, 0, 0, 0, 0, 0);
        int inside = Checks.read(x, "[a~[b]~[[c]]]");
        x.width(20);
        measured(x, inside, 1, 5, 3, 0, 2, 0, 0, 6, 5);
        int blanks = Checks.read(x, "<_~_>");
        x.width(2);
        measured(x, blanks, 4, 2, 0, 6, 0, 0, 36, 0, 2);
    }

    private static void columns() {
        Nestprint x = new Nestprint();
        int node = x.join(x.join(x.word(25, 2), x.nest(x.mark(1), 3)), x.word(0, 1));
        Checks.due("its lines", Checks.lines(x, node), "zz|   a");
        Checks.due("at(.., 0, 0)", x.at(node, 0, 0), 26);
        Checks.due("at(.., 0, 1)", x.at(node, 0, 1), 26);
        Checks.due("at(.., 1, 0)", x.at(node, 1, 0), 0);
        Checks.due("at(.., 1, 2)", x.at(node, 1, 2), 0);
        Checks.due("at(.., 1, 3)", x.at(node, 1, 3), 1);
        Checks.due("none told yet", x.house(4), 0);
        Checks.due("at(.., 0, 2)", x.at(node, 0, 2), -9);
        Checks.due("at(.., 1, 4)", x.at(node, 1, 4), -9);
        Checks.due("at(.., 2, 0)", x.at(node, 2, 0), -9);
        Checks.due("at(.., -1, 0)", x.at(node, -1, 0), -9);
        Checks.due("at(.., 0, -1)", x.at(node, 0, -1), -9);
        Checks.due("at(.., most, most)", x.at(node, Integer.MAX_VALUE, Integer.MAX_VALUE), -9);
        Checks.due("all are counted", x.house(4), 6);
        x.blank();
        Checks.due("together with blank()", x.house(4), 7);
        Checks.refused("at(99, 0, 9)", x, INDEX, () -> x.at(99, 0, 9));
        Checks.refused("at(-1, 0, 9)", x, INDEX, () -> x.at(-1, 0, 9));
    }

    private static void places() {
        Nestprint x = new Nestprint();
        int node = Checks.read(x, "a<_b{c_d}>[]_[e_f]");
        Checks.due("its lines", Checks.lines(x, node), "a|  bc|   d|e f");
        int[][] due = {{0, 0}, {1, 2}, {1, 3}, {2, 3}, {2, 4}, {3, 0}, {3, 2}, {-1, -1}};
        for (int nth = 0; nth < due.length; nth++) {
            Checks.due("line of " + nth, x.where(node, nth, false), due[nth][0]);
            Checks.due("column of " + nth, x.where(node, nth, true), due[nth][1]);
        }
        Checks.due("column of the most", x.where(node, Integer.MAX_VALUE, true), -1);
        Checks.due("of no TEXTS", x.where(Checks.read(x, "_"), 0, false), -1);
    }

    private static void ones() {
        Nestprint x = new Nestprint();
        x.width(5);
        int node = Checks.read(x, "[a_[bb_cc]~d]~[]");
        Checks.due("its lines", Checks.lines(x, node), "a|bb cc|d ");
        int[] due = {0, 1, 0, 1, 1, -1};
        for (int nth = 0; nth < due.length; nth++) {
            Checks.due("isOne(.., " + nth + ")", x.isOne(node, nth), due[nth]);
        }
        x.width(20);
        for (int nth = 0; nth < 5; nth++) {
            Checks.due("isOne(.., " + nth + ") in 20", x.isOne(node, nth), 1);
        }
        Checks.due("isOne of a word", x.isOne(x.word(0, 1), 0), -1);
        int open = Checks.read(x, "[[a];]");
        Checks.due("an OPEN GROUP", x.isOne(open, 0), 0);
        Checks.due("a GROUP in it", x.isOne(open, 1), 1);
        Checks.due("isOne(.., most int)", x.isOne(open, Integer.MAX_VALUE), -1);
    }

    private static void differences() {
        Nestprint x = new Nestprint();
        int one = Checks.read(x, "a_b_c");
        int other = Checks.read(x, "a,b,c");
        int longer = Checks.read(x, "a_b_c_d");
        int unlike = Checks.read(x, "a_c_b");
        int flat = Checks.read(x, "[a_b]");
        Checks.due("the same lines", x.differ(one, other, false), -1);
        Checks.due("itself", x.differ(one, one, true), -1);
        Checks.due("a line more", x.differ(one, longer, false), 3);
        Checks.due("a line less", x.differ(longer, one, false), 3);
        Checks.due("another line 1", x.differ(one, unlike, false), 1);
        Checks.due("another line 0", x.differ(one, flat, false), 0);
        Checks.due("by LEAST", x.differ(one, longer, true), 3);
        x.width(6);
        int greedy = Checks.read(x, "[a_b]{cc_dddd}");
        int broken = Checks.read(x, "a_b{cc_dddd}");
        Checks.due("of greedy ones", x.differ(greedy, broken, false), 0);
        Checks.due("of least ones", x.differ(greedy, broken, true), -1);
        Checks.due("a blank at the end", x.differ(Checks.read(x, "a"), Checks.read(x, "a[_]"), false), 0);
        int heavy = Checks.read(x, "a_a_a_a_a_a_a");
        Checks.due("WEIGHT 13 is 13", x.ofNode(heavy, 1), 13);
        Checks.due("WEIGHT 13, not by LEAST", x.differ(heavy, one, false), 1);
        Checks.refused("WEIGHT 13 by LEAST", x, STATE, () -> x.differ(heavy, one, true));
        Checks.refused("WEIGHT 13 as the other", x, STATE, () -> x.differ(one, heavy, true));
        Checks.refused("WEIGHT 13 and no such node", x, INDEX, () -> x.differ(heavy, 99, true));
        Checks.refused("no such node", x, INDEX, () -> x.differ(-1, one, false));
        Checks.refused("no such other node", x, INDEX, () -> x.differ(one, 99, false));
    }

    /** What one call has laid out is nothing to the next one. */
    private static void oneBehindTheOther() {
        Nestprint x = new Nestprint();
        int short1 = Checks.read(x, "a");
        int long1 = Checks.read(x, "bb<_cc[d~e]>");
        Checks.code(x, "[a,b]");
        for (int round = 0; round < 2; round++) {
            Checks.due("codeLine(0)", x.codeLine(0), "[a, b]");
            Checks.due("at() of the long one", x.at(long1, 1, 2), 3);
            Checks.due("line() of the short one", x.line(short1, 0), "a");
            Checks.due("where() of the long one", x.where(long1, 1, true), 2);
            Checks.due("measure() of the short one", x.measure(short1, 1), 1);
            Checks.due("where() of the long one, its line", x.where(long1, 2, false), 1);
            Checks.due("at() of the short one", x.at(short1, 0, 0), 1);
            Checks.due("leastLine() of the long one", x.leastLine(long1, 1), "  ccd e");
            Checks.due("least() of the short one", x.least(short1, 3), 1);
            Checks.due("flat() of the long one", x.flat(long1), "bb ccd e");
            Checks.due("isOne() of the long one", x.isOne(long1, 1), 1);
            Checks.due("leastLine() of the short one", x.leastLine(short1, 0), "a");
            Checks.due("fits() of the long one", x.fits(long1, 13), false);
            Checks.due("narrowest() of the short one", x.narrowest(short1), 1);
            Checks.due("would() of the long one", x.would(long1, 6, 0), 3);
            Checks.due("ofCode(9)", x.ofCode(9), 1);
            Checks.due("ofNode() of the short one", x.ofNode(short1, 4), 1);
            Checks.due("ofNode() of the long one", x.ofNode(long1, 5), 4);
            Checks.due("differ() of both", x.differ(short1, long1, true), 0);
        }
    }

    private static void wrongArguments() {
        Nestprint x = Checks.withWords(1);
        Checks.refused("ofNode(0, -1)", x, ARGUMENT, () -> x.ofNode(0, -1));
        Checks.refused("ofNode(0, 8)", x, ARGUMENT, () -> x.ofNode(0, 8));
        Checks.refused("ofNode(1, 8)", x, INDEX, () -> x.ofNode(1, 8));
        Checks.refused("flat(1)", x, INDEX, () -> x.flat(1));
        Checks.refused("flat(-1)", x, INDEX, () -> x.flat(-1));
        Checks.refused("line(0, -1)", x, ARGUMENT, () -> x.line(0, -1));
        Checks.refused("line(1, -1)", x, INDEX, () -> x.line(1, -1));
        Checks.refused("measure(0, 9)", x, ARGUMENT, () -> x.measure(0, 9));
        Checks.refused("measure(0, -1)", x, ARGUMENT, () -> x.measure(0, -1));
        Checks.refused("measure(1, 9)", x, INDEX, () -> x.measure(1, 9));
        Checks.refused("where(0, -1, true)", x, ARGUMENT, () -> x.where(0, -1, true));
        Checks.refused("where(1, -1, true)", x, INDEX, () -> x.where(1, -1, true));
        Checks.refused("isOne(0, -1)", x, ARGUMENT, () -> x.isOne(0, -1));
        Checks.refused("isOne(-1, -1)", x, INDEX, () -> x.isOne(-1, -1));
    }
}
