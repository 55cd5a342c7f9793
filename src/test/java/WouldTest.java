/** Promises 30 to 36: the house, what would be, the least, and isSound. */
public final class WouldTest {
    private static final Class<?> ARGUMENT = IllegalArgumentException.class;
    private static final Class<?> STATE = IllegalStateException.class;
    private static final Class<?> INDEX = IndexOutOfBoundsException.class;

    public static void main(String[] args) {
        house();
        fits();
        would();
        narrowest();
        leasts();
        ties();
        leastsRefused();
        soundness();
        wideOnes();
        Checks.end();
    }

    private static void house() {
        Nestprint x = new Nestprint();
        x.width(30);
        x.ribbon(40);
        Checks.read(x, "[a_b]");
        x.word(0, 1);
        x.forget();
        Checks.read(x, "a_b");
        x.word(3, 3);
        x.blank();
        x.knock();
        x.knock();
        int[] due = {2, 30, 40, 3, 1, 2, 4, 4};
        for (int what = 0; what <= 7; what++) {
            Checks.due("house(" + what + ")", x.house(what), due[what]);
        }
        Checks.refused("house(-1)", x, ARGUMENT, () -> x.house(-1));
        Checks.refused("house(8)", x, ARGUMENT, () -> x.house(8));
    }

    private static void fits() {
        Nestprint x = new Nestprint();
        x.width(10);
        int node = Checks.read(x, "[aa_b]");
        Checks.due("fits(.., 6)", x.fits(node, 6), true);
        Checks.due("fits(.., 7)", x.fits(node, 7), false);
        Checks.due("fits(.., 0)", x.fits(node, 0), true);
        Checks.due("fits(.., 60)", x.fits(node, 60), false);
        x.ribbon(1);
        Checks.due("fits() has no RIBBON", x.fits(node, 6), true);
        int open = Checks.read(x, ";");
        Checks.due("an OPEN one never fits", x.fits(open, 0), false);
        int nothing = Checks.read(x, "");
        Checks.due("nothing fits at WIDTH", x.fits(nothing, 10), true);
        Checks.due("nothing does not fit beyond", x.fits(nothing, 11), false);
        Checks.refused("fits(.., 61)", x, ARGUMENT, () -> x.fits(node, 61));
        Checks.refused("fits(.., -1)", x, ARGUMENT, () -> x.fits(node, -1));
        Checks.refused("fits(9, 61)", x, INDEX, () -> x.fits(9, 61));
    }

    private static void would() {
        Nestprint x = new Nestprint();
        int node = Checks.read(x, "[aa<_bbb_cc>]dd");
        int[] in5 = {3, 6, 9, 4, 0, 1, 124, 0, 6};
        int[] in12 = {1, 11, 9, 0, 2, 0, 0, 1, 11};
        for (int what = 0; what <= 8; what++) {
            Checks.due("would(.., 5, " + what + ")", x.would(node, 5, what), in5[what]);
            Checks.due("would(.., 12, " + what + ")", x.would(node, 12, what), in12[what]);
        }
        Checks.due("WIDTH stays", x.house(1), 20);
        x.ribbon(8);
        Checks.due("would() has RIBBON", x.would(node, 12, 0), 3);
        Checks.refused("would(.., 0, 0)", x, ARGUMENT, () -> x.would(node, 0, 0));
        Checks.refused("would(.., 61, 0)", x, ARGUMENT, () -> x.would(node, 61, 0));
        Checks.refused("would(.., 1, 9)", x, ARGUMENT, () -> x.would(node, 1, 9));
        Checks.refused("would(.., 1, -1)", x, ARGUMENT, () -> x.would(node, 1, -1));
        Checks.refused("would(9, 61, 9)", x, INDEX, () -> x.would(9, 61, 9));
    }

    private static void narrowest() {
        Nestprint x = new Nestprint();
        Checks.due("narrowest of aa_bbb", x.narrowest(Checks.read(x, "aa_bbb")), 3);
        Checks.due("narrowest of a group", x.narrowest(Checks.read(x, "[aa_bbb]")), 3);
        Checks.due("narrowest of nothing", x.narrowest(Checks.read(x, "")), 1);
        Checks.due("narrowest of nests", x.narrowest(Checks.read(x, "a<<_b>>")), 5);
        Checks.due("narrowest of a blank", x.narrowest(Checks.read(x, "aa~")), 2);
        Checks.due("narrowest of 60", x.narrowest(Checks.read(x, "abcdef".repeat(10))), 60);
        int six = x.word(0, 6);
        int wide = x.join(Checks.read(x, "abcdef".repeat(9)), six);
        Checks.due("narrowest of 60 in two", x.narrowest(wide), 60);
        Checks.due("narrowest of 61", x.narrowest(x.join(wide, x.word(0, 1))), -1);
        // In 5 and 6 the GROUP is flat, and pushes what is aligned behind it too far to the right.
        int odd = Checks.read(x, "[a_b]{cc_dddd}");
        Checks.due("narrowest of an odd one", x.narrowest(odd), 7);
        Checks.due("signs beyond in 4", x.would(odd, 4, 5), 1);
        Checks.due("signs beyond in 5", x.would(odd, 5, 5), 2);
        x.ribbon(3);
        Checks.due("narrowest has RIBBON", x.narrowest(odd), 5);
        Checks.due("WIDTH stays", x.house(1), 20);
        Checks.refused("narrowest(99)", x, INDEX, () -> x.narrowest(99));
        Checks.refused("narrowest(-1)", x, INDEX, () -> x.narrowest(-1));
    }

    private static void leastOf(Nestprint x, int node, int cost, int lines, int ones, int longest, String due) {
        Checks.due("least(.., 0) for " + due, x.least(node, 0), cost);
        Checks.due("least(.., 1) for " + due, x.least(node, 1), lines);
        Checks.due("least(.., 2) for " + due, x.least(node, 2), ones);
        Checks.due("least(.., 3) for " + due, x.least(node, 3), longest);
        Checks.due("leastLine() for " + due, Checks.leastLines(x, node), due);
        Checks.due("leastLine() behind " + due, x.leastLine(node, lines), "!");
    }

    private static void leasts() {
        Nestprint x = new Nestprint();
        x.width(5);
        leastOf(x, Checks.read(x, "[aaa_bbb]"), 10, 2, 0, 3, "aaa|bbb");
        leastOf(x, Checks.read(x, "[aa_bb]"), 0, 1, 1, 5, "aa bb");
        leastOf(x, Checks.read(x, "aa_bb"), 10, 2, 0, 2, "aa|bb");
        leastOf(x, Checks.read(x, "[a_b;c]"), 20, 3, 0, 1, "a|b|c");
        leastOf(x, Checks.read(x, ""), 0, 1, 0, 0, "");
        x.width(6);
        int greedy = Checks.read(x, "[a_b]{cc_dddd}");
        Checks.due("the layout of the greedy one", Checks.lines(x, greedy), "a bcc|   dddd");
        Checks.due("its COST", x.measure(greedy, 6), 113);
        leastOf(x, greedy, 21, 3, 0, 5, "a|bcc| dddd");
        x.ribbon(1);
        leastOf(x, greedy, 21, 3, 0, 5, "a|bcc| dddd");
        leastOf(x, Checks.read(x, "[aa_bb]"), 0, 1, 1, 5, "aa bb");
        x.ribbon(60);
        x.width(3);
        leastOf(x, Checks.read(x, "aa~b~cc~d"), 30, 4, 0, 2, "aa|b|cc|d");
        x.width(1);
        leastOf(x, Checks.read(x, "[<_a>]"), 100, 1, 1, 2, " a");
        leastOf(x, Checks.read(x, "[[[a]]]~[b]"), 10, 2, 4, 1, "a|b");
    }

    private static void ties() {
        Nestprint x = new Nestprint();
        x.width(5);
        leastOf(x, Checks.read(x, "[a_b][c_d]"), 10, 2, 1, 4, "a bc|d");
        x.width(4);
        leastOf(x, Checks.read(x, "a~b~c~d"), 10, 2, 2, 3, "a b|c d");
        leastOf(x, Checks.read(x, "a~b~c"), 10, 2, 1, 3, "a b|c");
    }

    private static void leastsRefused() {
        Nestprint x = Checks.withWords(1);
        int twelve = Checks.read(x, "a_".repeat(6));
        int thirteen = Checks.read(x, "a_".repeat(6) + "a");
        Checks.due("WEIGHT 12", x.least(twelve, 0), 60);
        Checks.due("its second line", x.leastLine(twelve, 1), "a");
        Checks.refused("WEIGHT 13: least", x, STATE, () -> x.least(thirteen, 0));
        Checks.refused("WEIGHT 13: leastLine", x, STATE, () -> x.leastLine(thirteen, 0));
        Checks.refused("WEIGHT 13: least(.., 4)", x, ARGUMENT, () -> x.least(thirteen, 4));
        Checks.refused("WEIGHT 13: leastLine(.., -1)", x, ARGUMENT, () -> x.leastLine(thirteen, -1));
        Checks.refused("least(0, -1)", x, ARGUMENT, () -> x.least(0, -1));
        Checks.refused("least(0, 4)", x, ARGUMENT, () -> x.least(0, 4));
        Checks.refused("least(9, 4)", x, INDEX, () -> x.least(9, 4));
        Checks.refused("leastLine(0, -1)", x, ARGUMENT, () -> x.leastLine(0, -1));
        Checks.refused("leastLine(9, -1)", x, INDEX, () -> x.leastLine(9, -1));
        Checks.refused("leastLine(-1, 0)", x, INDEX, () -> x.leastLine(-1, 0));
        Checks.due("leastLine(.., most int)", x.leastLine(0, Integer.MAX_VALUE), "!");
    }

    private static void soundness() {
        Nestprint x = new Nestprint();
        Checks.due("isSound() at first", x.isSound(), true);
        String[] all = {"", "a", "[a_b]", "a;b", "[aaa<_bb{c_d~e}>]f[a~b]", "<a~b~c~d>", "[[[a,[b,c]]]]", "a_".repeat(30)};
        for (String typed : all) {
            Checks.read(x, typed);
            for (int width : new int[] {1, 4, 7, 20, 60}) {
                x.width(width);
                x.ribbon(width < 20 ? 3 : 60);
                Checks.due("isSound() with " + typed + " in " + width, x.isSound(), true);
            }
        }
        Checks.code(x, "a(b+c*(d+e),[a,b,c()],f)*(a+b)");
        Checks.due("isSound() with code", x.isSound(), true);
        Checks.due("plain() behind that", x.plain(), "a(b+c*(d+e),[a,b,c()],f)*(a+b)");
        x.forget();
        Checks.due("isSound() without nodes", x.isSound(), true);
    }

    private static void wideOnes() {
        Nestprint x = new Nestprint();
        int word = Checks.read(x, "abcdef".repeat(10));
        int line = x.mark(1);
        int two = x.join(word, word);
        int eight = x.join(x.join(two, two), x.join(two, two));
        int sixteen = x.join(eight, eight);
        int wide = x.join(sixteen, sixteen);
        int lines = x.join(line, x.join(line, line));
        int node = x.join(wide, x.align(x.join(lines, word)));
        Checks.due("lines of a wide one", x.measure(node, 0), 4);
        Checks.due("its longest line", x.measure(node, 1), 1980);
        Checks.due("its blanks", x.measure(node, 3), 5760);
        Checks.due("its COST", x.measure(node, 6), 100 * (1900 + 1900 + 1900 + 1960) + 30 + 5760);
        Checks.due("the end of its last line", x.line(node, 3).length(), 1980);
        Checks.due("a sign of it", x.at(node, 3, 1925), 6);
        Checks.due("isSound()", x.isSound(), true);
    }
}
