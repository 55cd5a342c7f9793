/** What FITS to the very column and one beyond it, what is not there, and where a column or a COST begins. */
public final class LayoutBoundsTest {
    public static void main(String[] args) {
        groupsThatFit();
        groupsInOthers();
        emptyGroups();
        softsThatFit();
        marksThatEndWhatFollows();
        whatFollowsToTheEnd();
        ribbonsOfTheFirstLine();
        ribbonsOfOtherLines();
        ribbonsAndWidths();
        theNarrowestRoom();
        theWidestRoom();
        openOnes();
        indents();
        linesAndSigns();
        textsAndChoices();
        columnsBeyond();
        fitsAtAColumn();
        narrowests();
        byOfOthers();
        differences();
        Checks.end();
    }

    private static Nestprint room(int width, int ribbon) {
        Nestprint x = new Nestprint();
        x.width(width);
        x.ribbon(ribbon);
        return x;
    }

    /** The layout's lines, with a bar between each two, and of each GROUP and SOFT 1 if it is flat, or a blank. */
    private static void laid(String typed, int width, int ribbon, String lines, String ones) {
        Nestprint x = room(width, ribbon);
        int node = Checks.read(x, typed);
        String call = typed + " in WIDTH " + width + ", RIBBON " + ribbon;
        Checks.due("lines of " + call, Checks.lines(x, node), lines);
        StringBuilder all = new StringBuilder();
        for (int nth = 0; nth < x.ofNode(node, 6); nth++) {
            all.append(x.isOne(node, nth));
        }
        Checks.due("isOne() of " + call, all.toString(), ones);
        Checks.due("measure(.., 7) of " + call, x.measure(node, 7), ones.replace("0", "").length());
        Checks.due("isSound() with " + call, x.isSound(), true);
    }

    private static void laid(String typed, int width, String lines, String ones) {
        laid(typed, width, 60, lines, ones);
    }

    // ---- to the very column, and one beyond

    private static void groupsThatFit() {
        laid("[aa_b]", 4, "aa b", "1");
        laid("[aa_b]", 3, "aa|b", "0");
        laid("[aa,b]", 3, "aab", "1");
        laid("[aa,b]", 2, "aa|b", "0");
        laid("dd[a_b]", 5, "dda b", "1");
        laid("dd[a_b]", 4, "dda|b", "0");
        laid("[a_b]cc", 5, "a bcc", "1");
        laid("[a_b]cc", 4, "a|bcc", "0");
        laid("d[a_b]c", 5, "da bc", "1");
        laid("d[a_b]c", 4, "da|bc", "0");
        laid("d_[a_b]c", 4, "d|a bc", "1");
        laid("d_[a_b]c", 3, "d|a|bc", "0");
        laid("<_[a_b]>", 5, "|  a b", "1");
        laid("<_[a_b]>", 4, "|  a|  b", "0");
    }

    private static void groupsInOthers() {
        laid("[[a_b]_c]", 5, "a b c", "11");
        laid("[[a_b]_c]", 4, "a b|c", "01");
        laid("[[a_b]_c]", 3, "a b|c", "01");
        laid("[[a_b]_c]", 2, "a|b|c", "00");
        laid("[c_[a_b]]", 5, "c a b", "11");
        laid("[c_[a_b]]", 4, "c|a b", "01");
        laid("[c_[a_b]]", 2, "c|a|b", "00");
        laid("[[a_b]]c", 4, "a bc", "11");
        laid("[[a_b]]c", 3, "a|bc", "00");
        laid("[[a_b]c]d", 5, "a bcd", "11");
        laid("[[a_b]c]d", 4, "a|bcd", "00");
        // In a broken GROUP the inner one does not care for what the outer one needs.
        laid("[[a_b]_ccccc]", 8, "a b|ccccc", "01");
    }

    private static void emptyGroups() {
        laid("aaa[]", 3, "aaa", "1");
        laid("aaa[]", 2, "aaa", "0");
        laid("[]aaa", 3, "aaa", "1");
        laid("[]aaa", 2, "aaa", "0");
        laid("[aaa]", 3, "aaa", "1");
        laid("[aaa]", 2, "aaa", "0");
        laid("[,]", 1, "", "1");
        laid("a[,]", 1, "a", "1");
        laid("aa[,]", 1, "aa|", "0");
        laid("[,]a", 1, "a", "1");
        laid("[,]aa", 1, "|aa", "0");
        laid("[_]", 1, " ", "1");
        laid("a[_]", 2, "a ", "1");
        laid("a[_]", 1, "a|", "0");
    }

    private static void softsThatFit() {
        laid("aa~bb", 5, "aa bb", "1");
        laid("aa~bb", 4, "aa|bb", "0");
        laid("a~b[c]d", 5, "a bcd", "11");
        laid("a~b[c]d", 4, "a|bcd", "01");
        laid("a~", 2, "a ", "1");
        laid("a~", 1, "a|", "0");
        laid("~", 1, " ", "1");
        laid("~a", 2, " a", "1");
        laid("~a", 1, "|a", "0");
        laid("a~~b", 4, "a  b", "11");
        laid("a~~b", 3, "a |b", "10");
        laid("a~~b", 1, "a||b", "00");
        laid("[a~b]", 3, "a b", "11");
        laid("[a~b]", 2, "a|b", "00");
        laid("[a~b_cc]", 5, "a b|cc", "01");
        laid("aa~bb~cc~dd", 5, "aa bb|cc dd", "101");
    }

    private static void marksThatEndWhatFollows() {
        laid("[a_b]c_ddddd", 4, "a bc|ddddd", "1");
        laid("[a_b]c_ddddd", 3, "a|bc|ddddd", "0");
        laid("[a_b]c,ddddd", 4, "a bc|ddddd", "1");
        laid("[a_b]c,ddddd", 3, "a|bc|ddddd", "0");
        laid("[a_b]c;ddddd", 4, "a bc|ddddd", "1");
        laid("[a_b]c;ddddd", 3, "a|bc|ddddd", "0");
        laid("[a_b]c~ddddd", 4, "a bc|ddddd", "10");
        laid("[a_b]c~ddddd", 3, "a|bc|ddddd", "00");
        laid("[a_b]_ddddd", 3, "a b|ddddd", "1");
        laid("[a_b]_ddddd", 2, "a|b|ddddd", "0");
        laid("a~b_ddddd", 3, "a b|ddddd", "1");
        laid("a~b_ddddd", 2, "a|b|ddddd", "0");
        laid("a~,ddddd", 2, "a |ddddd", "1");
        laid("a~,ddddd", 1, "a||ddddd", "0");
        // A MARK ends it even where it is flat.
        laid("[a_b][c_d]", 5, "a bc|d", "10");
        laid("[a_b][c_d]", 6, "a bc d", "11");
        laid("[a_b]c[,]d", 4, "a bc|d", "10");
        laid("[a_b]c[,]d", 5, "a bcd", "11");
    }

    private static void whatFollowsToTheEnd() {
        laid("[a_b][]c", 4, "a bc", "11");
        laid("[a_b][]c", 3, "a|bc", "01");
        laid("[a_b]<c>d", 5, "a bcd", "1");
        laid("[a_b]<c>d", 4, "a|bcd", "0");
        laid("{[a_b]c}d", 5, "a bcd", "1");
        laid("{[a_b]c}d", 4, "a|bcd", "0");
        laid("[a_b]{c[d]}e", 6, "a bcde", "11");
        laid("[a_b]{c[d]}e", 5, "a|bcde", "01");
        Nestprint x = room(4, 60);
        int group = Checks.read(x, "[a_b]");
        Checks.due("alone nothing follows", x.isOne(group, 0), 1);
        int longer = x.join(group, x.word(2, 2));
        Checks.due("in a JOIN its other one follows", x.isOne(longer, 0), 0);
        Checks.due("nothing follows in the GROUP's own layout", x.isOne(group, 0), 1);
        int twice = x.join(group, group);
        Checks.due("the first of the same two", x.isOne(twice, 0), 1);
        Checks.due("the second of the same two", x.isOne(twice, 1), 0);
    }

    private static void ribbonsOfTheFirstLine() {
        laid("[aa_b]", 20, 4, "aa b", "1");
        laid("[aa_b]", 20, 3, "aa|b", "0");
        laid("aa~b", 20, 4, "aa b", "1");
        laid("aa~b", 20, 3, "aa|b", "0");
        // Its INDENT is no matter on the first line, which begins without blanks.
        laid("<[aa_b]>", 20, 4, "aa b", "1");
        laid("<[aa_b]>", 20, 3, "aa|  b", "0");
        laid("aa{[b_c]}", 20, 5, "aab c", "1");
        laid("aa{[b_c]}", 20, 4, "aab|  c", "0");
    }

    private static void ribbonsOfOtherLines() {
        laid("<_[aa_b]>", 20, 4, "|  aa b", "1");
        laid("<_[aa_b]>", 20, 3, "|  aa|  b", "0");
        laid("<_aa~b>", 20, 4, "|  aa b", "1");
        laid("<_aa~b>", 20, 3, "|  aa|  b", "0");
        laid("aa{_[b_c]}", 20, 3, "aa|  b c", "1");
        laid("aa{_[b_c]}", 20, 2, "aa|  b|  c", "0");
        // The line's own blanks count, not those of lines ahead of it, and not the INDENT within it.
        laid("<_a>_[b_c]", 20, 3, "|  a|b c", "1");
        laid("<_a>_[b_c]", 20, 2, "|  a|b|c", "0");
        laid("<_<[a_b]>>", 20, 3, "|  a b", "1");
        laid("<_<[a_b]>>", 20, 2, "|  a|    b", "0");
        laid("<_>[a_b]", 20, 3, "|  a b", "1");
        laid("<_>[a_b]", 20, 2, "|  a|b", "0");
    }

    private static void ribbonsAndWidths() {
        laid("<_[aa_b]>", 6, 4, "|  aa b", "1");
        laid("<_[aa_b]>", 6, 60, "|  aa b", "1");
        laid("<_[aa_b]>", 7, 4, "|  aa b", "1");
        laid("<_[aa_b]>", 5, 4, "|  aa|  b", "0");
        laid("<_[aa_b]>", 5, 60, "|  aa|  b", "0");
        laid("<_[aa_b]>", 6, 3, "|  aa|  b", "0");
        laid("[aa_b]", 4, 4, "aa b", "1");
        laid("[aa_b]", 3, 4, "aa|b", "0");
        laid("[aa_b]", 4, 3, "aa|b", "0");
    }

    private static void theNarrowestRoom() {
        laid("[a]", 1, "a", "1");
        laid("[ab]", 1, "ab", "0");
        laid("[a,]", 1, "a", "1");
        laid("[a]", 60, 1, "a", "1");
        laid("[ab]", 60, 1, "ab", "0");
        laid("<_[a]>", 60, 1, "|  a", "1");
        laid("<_[ab]>", 60, 1, "|  ab", "0");
        laid("<_[a]>", 1, 60, "|  a", "0");
        laid("a~b", 1, 1, "a|b", "0");
    }

    private static void theWidestRoom() {
        Nestprint x = room(60, 60);
        int group = Checks.read(x, "[" + "abcdef".repeat(9) + "a_bc]");
        int two = x.word(3, 2);
        int three = x.word(3, 3);
        Checks.due("length of its FLAT", x.ofNode(group, 4), 58);
        Checks.due("a GROUP to column 60", x.isOne(x.join(group, two), 0), 1);
        Checks.due("a GROUP to column 61", x.isOne(x.join(group, three), 0), 0);
        Checks.due("a GROUP from 2 to column 60", x.isOne(x.join(two, group), 0), 1);
        Checks.due("a GROUP from 3 to column 61", x.isOne(x.join(three, group), 0), 0);
        x.ribbon(59);
        Checks.due("a GROUP to column 60 in RIBBON 59", x.isOne(x.join(group, two), 0), 0);
        Checks.due("a GROUP to column 59 in RIBBON 59", x.isOne(x.join(group, x.word(3, 1)), 0), 1);
    }

    private static void openOnes() {
        laid("[;]", 60, "|", "0");
        laid("[a;]", 60, "a|", "0");
        laid("[;a]", 60, "|a", "0");
        laid("[[a];]", 60, "a|", "01");
        laid("[[;]a]", 60, "|a", "00");
        laid("[a];[b]", 60, "a|b", "11");
        laid("[a~b;c_d]", 60, "a b|c|d", "01");
        laid("[a_[b_c]d;e]", 4, "a|b cd|e", "01");
        laid("[a_[b_c]d;e]", 3, "a|b|cd|e", "00");
        Nestprint x = new Nestprint();
        String[] open = {";", "a;", ";a", "[;]", "{<[a;b]>}", "a[b{c<d;>}]"};
        for (String typed : open) {
            int node = Checks.read(x, typed);
            Checks.due("OPEN: " + typed, x.ofNode(node, 3), 1);
            Checks.due("length of FLAT of " + typed, x.ofNode(node, 4), -1);
            Checks.due("FLAT of " + typed, x.flat(node), "!");
            Checks.due("fits() of " + typed, x.fits(node, 0), false);
        }
        String[] shut = {"_", ",", "~", "", "a_,~b"};
        for (String typed : shut) {
            int node = Checks.read(x, typed);
            Checks.due("OPEN: " + typed, x.ofNode(node, 3), 0);
            Checks.due("length of FLAT of " + typed, x.ofNode(node, 4), x.flat(node).length());
            Checks.due("fits() of " + typed, x.fits(node, 0), true);
        }
    }

    private static void indents() {
        laid("a_b", 60, "a|b", "");
        laid("<a>_b", 60, "a|b", "");
        laid("a<_>b", 60, "a|  b", "");
        laid("a<_<_>_>_b", 60, "a|  |    |  |b", "");
        laid("{_}", 60, "|", "");
        laid("a{_}b", 60, "a| b", "");
        laid("<a{_b}_c>", 60, "a| b|  c", "");
        laid("{<{_}>}", 60, "|", "");
        laid("a{<_>{_}}", 60, "a|   |   ", "");
        Nestprint x = new Nestprint();
        int line = x.mark(1);
        Checks.due("a NEST by 0", Checks.lines(x, x.nest(line, 0)), "|");
        Checks.due("a NEST by 1", Checks.lines(x, x.nest(line, 1)), "| ");
        Checks.due("a NEST by 8", Checks.lines(x, x.nest(line, 8)), "|        ");
        int node = line;
        for (int depth = 2; depth <= 20; depth++) {
            node = x.nest(node, 8);
        }
        Checks.due("19 NESTS by 8", x.measure(node, 8), 152);
        Checks.due("its COST", x.measure(node, 6), 100 * (152 - 20) + 10 + 152);
        Checks.due("its LEAST", x.least(node, 0), 100 * (152 - 20) + 10 + 152);
    }

    // ---- what is there, and what is not

    private static void linesAndSigns() {
        Nestprint x = room(20, 60);
        int node = x.join(x.word(0, 1), x.join(x.nest(x.join(x.mark(1), x.mark(2)), 2), x.word(25, 1)));
        Checks.due("its lines", Checks.lines(x, node), "a|  |  z");
        Checks.due("how many", x.measure(node, 0), 3);
        Checks.due("the last line", x.line(node, 2), "  z");
        Checks.due("the line behind it", x.line(node, 3), "!");
        Checks.due("the last LEAST line", x.leastLine(node, 2), "  z");
        Checks.due("the LEAST line behind it", x.leastLine(node, 3), "!");
        Checks.due("no -9 yet", x.house(4), 0);
        int[][] due = {{0, 0, 1}, {0, 1, -9}, {0, -1, -9}, {1, 0, 0}, {1, 1, 0}, {1, 2, -9}, {2, 0, 0}, {2, 1, 0}, {2, 2, 26},
            {2, 3, -9}, {3, 0, -9}, {-1, 0, -9}, {-1, -1, -9}, {Integer.MIN_VALUE, 0, -9}, {0, Integer.MIN_VALUE, -9},
            {Integer.MAX_VALUE, 0, -9}, {0, Integer.MAX_VALUE, -9}};
        int told = 0;
        for (int[] place : due) {
            Checks.due("at(.., " + place[0] + ", " + place[1] + ")", x.at(node, place[0], place[1]), place[2]);
            told += place[2] == -9 ? 1 : 0;
            Checks.due("-9 told behind that", x.house(4), told);
        }
        int empty = x.mark(1);
        Checks.due("an empty first line", x.line(empty, 0), "");
        Checks.due("an empty last line", x.line(empty, 1), "");
        Checks.due("behind an empty last line", x.line(empty, 2), "!");
        Checks.due("at() of an empty line", x.at(empty, 0, 0), -9);
        Checks.due("-9 told behind that", x.house(4), told + 1);
        Checks.code(x, "a(b)");
        x.width(3);
        Checks.due("lines of CODE", x.ofCode(9), 3);
        Checks.due("the last line of CODE", x.codeLine(2), ")");
        Checks.due("the line of CODE behind it", x.codeLine(3), "!");
    }

    private static void textsAndChoices() {
        Nestprint x = room(3, 60);
        int node = Checks.read(x, "[a~b_c][d]");
        Checks.due("its lines", Checks.lines(x, node), "a b|cd");
        Checks.due("its TEXTS", x.ofNode(node, 5), 4);
        int[][] places = {{0, 0}, {0, 2}, {1, 0}, {1, 1}, {-1, -1}, {-1, -1}};
        for (int nth = 0; nth < places.length; nth++) {
            Checks.due("line of TEXT " + nth, x.where(node, nth, false), places[nth][0]);
            Checks.due("column of TEXT " + nth, x.where(node, nth, true), places[nth][1]);
        }
        Checks.due("its GROUPS and SOFTS", x.ofNode(node, 6), 3);
        int[] ones = {0, 1, 1, -1, -1};
        for (int nth = 0; nth < ones.length; nth++) {
            Checks.due("isOne() of " + nth, x.isOne(node, nth), ones[nth]);
        }
        int mark = x.mark(1);
        Checks.due("line of no TEXT", x.where(mark, 0, false), -1);
        Checks.due("column of no TEXT", x.where(mark, 0, true), -1);
        Checks.due("isOne() of no GROUP", x.isOne(mark, 0), -1);
        Checks.due("TEXTS of a MARK", x.ofNode(mark, 5), 0);
        Checks.due("GROUPS of a MARK", x.ofNode(mark, 6), 0);
        int word = x.word(0, 1);
        Checks.due("line of the only TEXT", x.where(word, 0, false), 0);
        Checks.due("line of the TEXT behind it", x.where(word, 1, false), -1);
        int soft = x.mark(4);
        Checks.due("isOne() of the only SOFT", x.isOne(soft, 0), 1);
        Checks.due("isOne() behind it", x.isOne(soft, 1), -1);
    }

    // ---- where a column is beyond, and what it costs

    private static void measured(String typed, int width, int beyond, int cost) {
        Nestprint x = room(width, 60);
        int node = Checks.read(x, typed);
        Checks.due("signs beyond of " + typed + " in " + width, x.measure(node, 5), beyond);
        Checks.due("COST of " + typed + " in " + width, x.measure(node, 6), cost);
        x.width(33);
        Checks.due("would() beyond of " + typed + " in " + width, x.would(node, width, 5), beyond);
        Checks.due("would() COST of " + typed + " in " + width, x.would(node, width, 6), cost);
    }

    private static void columnsBeyond() {
        measured("aaa", 3, 0, 0);
        measured("aaa", 2, 1, 100);
        measured("aaa", 1, 2, 200);
        measured("aaa_aa", 3, 0, 10);
        measured("aaa_aa", 2, 1, 110);
        measured("aaa_aa", 1, 3, 310);
        measured("<_>", 2, 0, 12);
        measured("<_>", 1, 1, 112);
        measured("<_a>", 3, 0, 12);
        measured("<_a>", 2, 1, 112);
        measured("<_a>", 1, 2, 212);
        measured("[a_b]", 3, 0, 0);
        measured("[a_b]", 2, 0, 10);
        measured("<_a_b>_", 3, 0, 34);
        measured("", 1, 0, 0);
        measured("a".repeat(60), 60, 0, 0);
        measured("a".repeat(60), 59, 1, 100);
        measured("a".repeat(60), 1, 59, 5900);
    }

    private static void fitsAtAColumn() {
        Nestprint x = room(10, 1);
        int three = Checks.read(x, "a_b");
        Checks.due("FLAT of 3 from 7 to WIDTH 10", x.fits(three, 7), true);
        Checks.due("FLAT of 3 from 8, one beyond", x.fits(three, 8), false);
        Checks.due("FLAT of 3 from 0", x.fits(three, 0), true);
        Checks.due("FLAT of 3 from 60", x.fits(three, 60), false);
        x.width(3);
        Checks.due("FLAT of 3 in WIDTH 3", x.fits(three, 0), true);
        x.width(2);
        Checks.due("FLAT of 3 in WIDTH 2", x.fits(three, 0), false);
        x.width(60);
        Checks.due("FLAT of 3 from 57 to WIDTH 60", x.fits(three, 57), true);
        Checks.due("FLAT of 3 from 58", x.fits(three, 58), false);
        int none = Checks.read(x, "");
        Checks.due("no SIGNS at 60, WIDTH 60", x.fits(none, 60), true);
        x.width(59);
        Checks.due("no SIGNS at 60, WIDTH 59", x.fits(none, 60), false);
        Checks.due("no SIGNS at 59, WIDTH 59", x.fits(none, 59), true);
        int open = Checks.read(x, ";");
        Checks.due("an OPEN one at 0", x.fits(open, 0), false);
        int cut = Checks.read(x, ",");
        Checks.due("a CUT at WIDTH", x.fits(cut, 59), true);
        Checks.due("a LINE at WIDTH", x.fits(Checks.read(x, "_"), 59), false);
        Checks.due("a LINE ahead of it", x.fits(Checks.read(x, "_"), 58), true);
    }

    private static void narrowests() {
        Nestprint x = new Nestprint();
        Checks.due("narrowest of nothing", x.narrowest(Checks.read(x, "")), 1);
        Checks.due("narrowest of one sign", x.narrowest(Checks.read(x, "a")), 1);
        Checks.due("narrowest of two", x.narrowest(Checks.read(x, "aa")), 2);
        Checks.due("narrowest of two blanks", x.narrowest(Checks.read(x, "<_>")), 2);
        Checks.due("narrowest of a sign behind them", x.narrowest(Checks.read(x, "<_>a")), 3);
        Checks.due("narrowest of 59", x.narrowest(Checks.read(x, "a".repeat(59))), 59);
        int sixty = Checks.read(x, "a".repeat(60));
        Checks.due("narrowest of 60", x.narrowest(sixty), 60);
        Nestprint y = new Nestprint();
        int most = Checks.read(y, "b".repeat(60));
        int more = y.join(most, y.word(0, 1));
        Checks.due("narrowest of 61", y.narrowest(more), -1);
        Checks.due("narrowest of a line of 60 and one of 1", y.narrowest(y.join(most, y.join(y.mark(1), 1))), 60);
        Checks.due("narrowest of 59 and a flat blank", y.narrowest(y.join(Checks.read(y, "a".repeat(59)), y.mark(4))), 59);
        Checks.due("WIDTH stays", y.house(1), 20);
        Checks.due("RIBBON stays", y.house(2), 60);
    }

    private static void byOfOthers() {
        Nestprint x = new Nestprint();
        x.word(0, 1);
        for (int kind = 1; kind <= 4; kind++) {
            x.mark(kind);
        }
        x.join(0, 1);
        x.nest(0, 0);
        x.nest(0, 8);
        x.nest(7, 3);
        x.align(7);
        x.group(7);
        x.fill(7, 8);
        x.fill(7, 7);
        x.join(7, 7);
        Checks.read(x, "<a>");
        Checks.read(x, "{<a>}");
        Checks.read(x, "[<a>]");
        Checks.read(x, "<a><b>");
        int[] due = {0, 0, 0, 0, 0, 0, 0, 8, 3, 0, 0, 0, 0, 0, 2, 0, 0, 0};
        int[] kinds = {0, 1, 2, 3, 4, 5, 6, 6, 6, 7, 8, 5, 5, 5, 6, 7, 8, 5};
        for (int node = 0; node < due.length; node++) {
            Checks.due("by how much " + node + " nests", x.ofNode(node, 7), due[node]);
            Checks.due("KIND of " + node, x.ofNode(node, 0), kinds[node]);
        }
        Checks.due("NODES", x.house(0), due.length);
    }

    private static void differences() {
        Nestprint x = new Nestprint();
        int none = Checks.read(x, "");
        int one = Checks.read(x, "_");
        int a = Checks.read(x, "a");
        int ab = Checks.read(x, "a_b");
        int ac = Checks.read(x, "a_c");
        int blank = Checks.read(x, "a<_>");
        for (boolean isLeast : new boolean[] {false, true}) {
            Checks.due("the same", x.differ(ab, ab, isLeast), -1);
            Checks.due("none and none", x.differ(none, none, isLeast), -1);
            Checks.due("the first line", x.differ(none, a, isLeast), 0);
            Checks.due("the last line", x.differ(ab, ac, isLeast), 1);
            Checks.due("a line that one has", x.differ(a, ab, isLeast), 1);
            Checks.due("a line that the other has", x.differ(ab, a, isLeast), 1);
            Checks.due("an empty line that one has", x.differ(one, none, isLeast), 1);
            Checks.due("a line of blanks", x.differ(ab, blank, isLeast), 1);
        }
        int twelve = Checks.read(x, "a_".repeat(6));
        int thirteen = Checks.read(x, "a_".repeat(6) + "a");
        Checks.due("WEIGHT 12 by LEAST", x.differ(twelve, twelve, true), -1);
        Checks.due("WEIGHT 12 and 13", x.differ(twelve, thirteen, false), 6);
        Class<?> state = IllegalStateException.class;
        Checks.refused("WEIGHT 12 and 13 by LEAST", x, state, () -> x.differ(twelve, thirteen, true));
        Checks.refused("WEIGHT 13 and 12 by LEAST", x, state, () -> x.differ(thirteen, twelve, true));
        Checks.refused("WEIGHT 13 and itself by LEAST", x, state, () -> x.differ(thirteen, thirteen, true));
    }
}
