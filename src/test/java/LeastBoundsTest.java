/** The LEAST LAYOUT: of which WEIGHT it is asked, where its COST begins, and which of several that have it. */
public final class LeastBoundsTest {
    private static final Class<?> STATE = IllegalStateException.class;

    public static void main(String[] args) {
        weights();
        costsAtTheColumn();
        costsOfNewLines();
        tiesOfGroups();
        tiesOfSofts();
        tiesOfInnerOnes();
        tiesOfFlatAndBroken();
        whatIsNotFree();
        noRibbon();
        aheadOfTheLayout();
        deepest();
        Checks.end();
    }

    /** LEAST, the lines of the LEAST LAYOUT, and how many GROUPS and SOFTS are flat, or a blank, in it. */
    private static void least(Nestprint x, int node, int cost, String lines, int ones) {
        String call = x.flat(node) + " in " + x.house(1);
        String[] all = lines.split("\\|", -1);
        int longest = 0;
        for (String line : all) {
            longest = Math.max(longest, line.length());
        }
        Checks.due("least(.., 0) of " + call, x.least(node, 0), cost);
        Checks.due("least(.., 1) of " + call, x.least(node, 1), all.length);
        Checks.due("least(.., 2) of " + call, x.least(node, 2), ones);
        Checks.due("least(.., 3) of " + call, x.least(node, 3), longest);
        Checks.due("leastLine() of " + call, Checks.leastLines(x, node), lines);
        Checks.due("leastLine() behind " + call, x.leastLine(node, all.length), "!");
        Checks.due("isSound() with " + call, x.isSound(), true);
    }

    private static void least(String typed, int width, int cost, String lines, int ones) {
        Nestprint x = new Nestprint();
        x.width(width);
        least(x, Checks.read(x, typed), cost, lines, ones);
    }

    // ---- a WEIGHT of 12, and above

    private static void weights() {
        String[] twelves = {"_".repeat(12), "a_".repeat(6), "[" + "a~".repeat(6) + "]", "[a]".repeat(12)};
        for (String typed : twelves) {
            Nestprint x = new Nestprint();
            int twelve = Checks.read(x, typed);
            Checks.due("WEIGHT of " + typed, x.ofNode(twelve, 1), 12);
            for (int nth = 0; nth <= 3; nth++) {
                int what = nth;
                boolean isThrown = Checks.answer(() -> x.least(twelve, what)).endsWith("Exception");
                Checks.due("least(.., " + what + ") of " + typed + " is refused:", isThrown, false);
            }
            Checks.due("leastLine() behind " + typed, x.leastLine(twelve, 60), "!");
            Checks.due("differ() of " + typed, x.differ(twelve, twelve, true), -1);
        }
        refusedAt(13);
        refusedAt(14);
        refusedAt(60);
        Nestprint x = new Nestprint();
        int twelve = Checks.read(x, "_".repeat(12));
        int one = x.mark(1);
        Checks.due("LEAST of 12 LINES", x.least(twelve, 0), 120);
        Checks.due("LEAST of a NEST of 12 LINES", x.least(x.nest(twelve, 8), 0), 120 + 96);
        Checks.due("LEAST of a GROUP of 12 LINES", x.least(x.group(twelve), 0), 0);
        int more = x.join(twelve, one);
        Checks.refused("LEAST of 12 LINES and one", x, STATE, () -> x.least(more, 0));
        Checks.refused("leastLine() of 12 LINES and one", x, STATE, () -> x.leastLine(more, 0));
    }

    private static void refusedAt(int weight) {
        Nestprint x = new Nestprint();
        int light = x.word(0, 1);
        int heavy = Checks.read(x, "_".repeat(weight));
        for (int nth = 0; nth <= 3; nth++) {
            int what = nth;
            Checks.refused("least(.., " + what + ") of WEIGHT " + weight, x, STATE, () -> x.least(heavy, what));
        }
        Checks.refused("leastLine(.., 0) of WEIGHT " + weight, x, STATE, () -> x.leastLine(heavy, 0));
        Checks.refused("leastLine(.., 99) of WEIGHT " + weight, x, STATE, () -> x.leastLine(heavy, 99));
        Checks.refused("differ() of WEIGHT 1 and " + weight, x, STATE, () -> x.differ(light, heavy, true));
        Checks.refused("differ() of WEIGHT " + weight + " and 1", x, STATE, () -> x.differ(heavy, light, true));
        Checks.due("differ() by their layouts", x.differ(light, heavy, false), 0);
    }

    // ---- where the COST begins

    private static void costsAtTheColumn() {
        least("[a_b]", 3, 0, "a b", 1);
        least("[a_b]", 2, 10, "a|b", 0);
        least("a~b", 3, 0, "a b", 1);
        least("a~b", 2, 10, "a|b", 0);
        least("aaa", 3, 0, "aaa", 0);
        least("aaa", 2, 100, "aaa", 0);
        least("[aa]", 1, 100, "aa", 1);
        least("a~", 2, 0, "a ", 1);
        least("a~", 1, 10, "a|", 0);
        least("[a,]", 1, 0, "a", 1);
        least("", 1, 0, "", 0);
        least("~", 1, 0, " ", 1);
    }

    private static void costsOfNewLines() {
        least("_", 20, 10, "|", 0);
        least(";", 20, 10, "|", 0);
        least(",", 20, 10, "|", 0);
        least("<_>", 2, 12, "|  ", 0);
        least("<_>", 1, 112, "|  ", 0);
        least("<a~b>", 3, 0, "a b", 1);
        least("<a~b>", 2, 100, "a b", 1);
        least("<<a~b>>", 4, 0, "a b", 1);
        least("<<a~bb>>", 3, 100, "a bb", 1);
        least("<a~bb>", 2, 200, "a bb", 1);
        least("<a~bbb>", 5, 0, "a bbb", 1);
        least("<a~bbb>", 4, 100, "a bbb", 1);
        least("<aa~bb>", 4, 12, "aa|  bb", 0);
        least("<aa~bb>", 3, 112, "aa|  bb", 0);
        least("<[aa_bb]>", 4, 12, "aa|  bb", 0);
    }

    // ---- of several with the same COST

    private static void tiesOfGroups() {
        least("[a_b][c_d]", 5, 10, "a bc|d", 1);
        least("[a_b]_[c_d]", 3, 10, "a b|c d", 2);
        least("[a_b][c_d][a_b]", 3, 30, "a|bc|da|b", 0);
        least("[a_b][c_d][a_b]", 4, 10, "a bc|da b", 2);
        least("[a_b][c_d][a_b]", 6, 10, "a bc|da b", 2);
        least("[aa_b][c_d]", 5, 10, "aa bc|d", 1);
        least("[aa_b][c_dd]", 5, 10, "aa bc|dd", 1);
    }

    private static void tiesOfSofts() {
        least("a~b~c~d", 5, 10, "a b c|d", 2);
        least("a~b~c~d", 4, 10, "a b|c d", 2);
        least("a~b~c~d", 3, 10, "a b|c d", 2);
        least("a~b~c~d", 2, 30, "a|b|c|d", 0);
        least("a~b~c", 4, 10, "a b|c", 1);
        least("a~[b_c]", 4, 10, "a b|c", 1);
        least("a~[b_c]", 5, 0, "a b c", 2);
        least("[a_b]c~d", 4, 10, "a bc|d", 1);
        least("[a_b]~c", 4, 10, "a b|c", 1);
    }

    /** The outer one comes first: flat it is preferred, and with it all that is in it. */
    private static void tiesOfInnerOnes() {
        least("[[a_b]]", 2, 10, "a|b", 0);
        least("[[a_b]]", 3, 0, "a b", 2);
        least("[[a]]", 1, 0, "a", 2);
        least("[[aa]]", 1, 100, "aa", 2);
        least("[a_[b]]", 2, 10, "a|b", 1);
        least("[[a]_b]", 2, 10, "a|b", 1);
        least("[[a_b]_[c_d]]", 3, 10, "a b|c d", 2);
        least("[[a_b][c_d]]", 5, 10, "a bc|d", 1);
        least("[[a_b][c_d]]", 6, 0, "a bc d", 3);
        least("[[a_b];[c_d]]", 3, 10, "a b|c d", 2);
        least("[[a~b]_c]", 3, 10, "a b|c", 2);
        least("[[a~b]_c]", 5, 0, "a b c", 3);
    }

    /** Its LINES, broken, cost 5 times 10 and 5 times 10 blanks: just what one sign beyond costs. */
    private static Nestprint dear(int firstLength) {
        Nestprint x = new Nestprint();
        x.mark(1);
        x.word(0, firstLength);
        int node = 1;
        for (int letter = 1; letter <= 5; letter++) {
            node = x.join(node, x.join(0, x.word(letter, letter == 1 ? 7 : 1)));
        }
        x.group(x.nest(x.nest(node, 8), 2));
        return x;
    }

    private static void tiesOfFlatAndBroken() {
        Nestprint x = dear(4);
        int last = x.house(0) - 1;
        String broken = "aaaa|          bbbbbbb|          c|          d|          e|          f";
        Checks.due("WEIGHT of the dear one", x.ofNode(last, 1), 11);
        Checks.due("length of its FLAT", x.ofNode(last, 4), 20);
        x.width(20);
        least(x, last, 0, "aaaa bbbbbbb c d e f", 1);
        x.width(19);
        least(x, last, 100, "aaaa bbbbbbb c d e f", 1);
        Checks.due("the layout's COST, too", x.measure(last, 6), 100);
        Checks.due("which is broken", x.isOne(last, 0), 0);
        x.width(18);
        least(x, last, 100, broken, 0);
        x.width(17);
        least(x, last, 100, broken, 0);
        x.width(16);
        least(x, last, 200, broken, 0);
    }

    private static void whatIsNotFree() {
        // A SOFT in a flat GROUP is a blank, and what is OPEN is never flat.
        least("[a~b]", 2, 10, "a|b", 0);
        least("[a;b]", 20, 10, "a|b", 0);
        least("[[a_b];c]", 20, 10, "a b|c", 1);
        least("[a_b;c]", 20, 20, "a|b|c", 0);
        least("[a~b;c]", 20, 10, "a b|c", 1);
        least("[a_[b~c;]]", 20, 20, "a|b c|", 1);
        least("a_b,c", 20, 20, "a|b|c", 0);
    }

    private static void noRibbon() {
        Nestprint x = new Nestprint();
        x.width(5);
        x.ribbon(1);
        int group = Checks.read(x, "[aa_bb]");
        Checks.due("the layout in RIBBON 1", Checks.lines(x, group), "aa|bb");
        least(x, group, 0, "aa bb", 1);
        x.ribbon(60);
        least(x, group, 0, "aa bb", 1);
        x.width(4);
        least(x, group, 10, "aa|bb", 0);
    }

    private static void aheadOfTheLayout() {
        Nestprint x = new Nestprint();
        x.width(6);
        int node = Checks.read(x, "[a_b]{cc_dddd}");
        Checks.due("the layout", Checks.lines(x, node), "a bcc|   dddd");
        Checks.due("its COST", x.measure(node, 6), 113);
        least(x, node, 21, "a|bcc| dddd", 0);
        x.width(7);
        Checks.due("the layout in 7", Checks.lines(x, node), "a bcc|   dddd");
        Checks.due("its COST in 7", x.measure(node, 6), 13);
        least(x, node, 13, "a bcc|   dddd", 1);
        // The layout breaks what doesn't fit; the LEAST LAYOUT has it flat, where that costs the same.
        int wide = Checks.read(x, "[aaaaaaaa]");
        Checks.due("a GROUP that does not fit", x.isOne(wide, 0), 0);
        least(x, wide, 100, "aaaaaaaa", 1);
    }

    private static void deepest() {
        Nestprint x = new Nestprint();
        int node = Checks.read(x, "a~[b_c]~[d_e]~[f]");
        Checks.due("WEIGHT", x.ofNode(node, 1), 11);
        for (int depth = x.ofNode(node, 2) + 1; depth <= 20; depth++) {
            node = x.group(node);
        }
        Checks.due("DEPTH", x.ofNode(node, 2), 20);
        Checks.due("GROUPS and SOFTS", x.ofNode(node, 6), 22);
        x.width(11);
        least(x, node, 0, "a b c d e f", 22);
        x.width(10);
        least(x, node, 10, "a b c d e|f", 5);
        x.width(1);
        least(x, node, 50, "a|b|c|d|e|f", 1);
        // Twelve LEAVES that all may be one thing or the other.
        Nestprint y = new Nestprint();
        y.width(5);
        int softs = Checks.read(y, "~".repeat(12));
        least(y, softs, 20, "     |     |", 10);
        y.width(1);
        least(y, softs, 60, " | | | | | |", 6);
    }
}
