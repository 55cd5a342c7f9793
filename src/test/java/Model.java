import java.util.ArrayList;
import java.util.List;

/** The document once more, as plainly as it can be said and without a thought of speed: what Nestprint is compared with. */
final class Model {
    static final int NONE = -1;
    private static final int TEXT = 0, LINE = 1, CUT = 2, HARD = 3, SOFT = 4, JOIN = 5, NEST = 6, ALIGN = 7, GROUP = 8;
    private static final String CODES = "abcdef_,;~[]{}<>()+*";

    static final class Node {
        final int kind;
        final String text;
        final int by;
        final List<Node> parts = new ArrayList<>();

        Node(int kind, String text, int by, Node... parts) {
            this.kind = kind;
            this.text = text;
            this.by = by;
            this.parts.addAll(List.of(parts));
        }

        void addLeaves(List<Node> leaves) {
            if (kind <= SOFT) {
                leaves.add(this);
            }
            for (Node part : parts) {
                part.addLeaves(leaves);
            }
        }

        List<Node> leaves() {
            List<Node> leaves = new ArrayList<>();
            addLeaves(leaves);
            return leaves;
        }

        int depth() {
            int most = 0;
            for (Node part : parts) {
                most = Math.max(most, part.depth());
            }
            return most + 1;
        }

        boolean isOpen() {
            return leaves().stream().anyMatch(leaf -> leaf.kind == HARD);
        }

        String flat() {
            StringBuilder all = new StringBuilder();
            for (Node leaf : leaves()) {
                all.append(leaf.kind == TEXT ? leaf.text : leaf.kind == CUT ? "" : " ");
            }
            return all.toString();
        }

        int choices() {
            int all = kind == GROUP || kind == SOFT ? 1 : 0;
            for (Node part : parts) {
                all += part.choices();
            }
            return all;
        }
    }

    /** One layout: by fitting, or by a list of choices. */
    static final class Layout {
        final List<String> lines = new ArrayList<>();
        final List<Integer> indents = new ArrayList<>();
        final List<Integer> ones = new ArrayList<>();
        final List<int[]> texts = new ArrayList<>();
        final int width;
        private final int ribbon;
        /** Which choices are flat, in the order in which they are asked; null: by fitting. */
        private final List<Boolean> choices;
        int asked = 0;
        private final List<Node> leaves;
        private int leaf = 0;
        private StringBuilder now = new StringBuilder();

        Layout(Node node, int width, int ribbon, List<Boolean> choices) {
            this.width = width;
            this.ribbon = ribbon;
            this.choices = choices;
            leaves = node.leaves();
            indents.add(0);
            lay(node, 0, false);
            lines.add(now.toString());
        }

        private void lay(Node node, int indent, boolean isFlat) {
            switch (node.kind) {
                case TEXT:
                    texts.add(new int[] {lines.size(), now.length()});
                    now.append(node.text);
                    leaf++;
                    break;
                case LINE:
                case CUT:
                    leaf++;
                    if (!isFlat) {
                        newLine(indent);
                    } else if (node.kind == LINE) {
                        now.append(' ');
                    }
                    break;
                case HARD:
                    leaf++;
                    newLine(indent);
                    break;
                case SOFT:
                    boolean isBlank = isFlat || isChosen(node);
                    ones.add(isBlank ? 1 : 0);
                    leaf++;
                    if (isBlank) {
                        now.append(' ');
                    } else {
                        newLine(indent);
                    }
                    break;
                case GROUP:
                    boolean isIn = isFlat || isChosen(node);
                    ones.add(isIn ? 1 : 0);
                    lay(node.parts.get(0), indent, isIn);
                    break;
                case NEST:
                    lay(node.parts.get(0), indent + node.by, isFlat);
                    break;
                case ALIGN:
                    lay(node.parts.get(0), now.length(), isFlat);
                    break;
                default:
                    for (Node part : node.parts) {
                        lay(part, indent, isFlat);
                    }
            }
        }

        private void newLine(int indent) {
            lines.add(now.toString());
            now = new StringBuilder(" ".repeat(indent));
            indents.add(indent);
        }

        private boolean isChosen(Node node) {
            if (node.isOpen()) {
                return false;
            }
            if (choices != null) {
                if (asked == choices.size()) {
                    choices.add(true);
                }
                return choices.get(asked++);
            }
            int follows = 0;
            for (int next = leaf + node.leaves().size(); next < leaves.size() && leaves.get(next).kind == TEXT; next++) {
                follows += leaves.get(next).text.length();
            }
            int right = Math.min(width, ribbon + indents.get(indents.size() - 1));
            return now.length() + node.flat().length() + follows <= right;
        }

        int beyond() {
            int all = 0;
            for (String line : lines) {
                all += Math.max(0, line.length() - width);
            }
            return all;
        }

        int blanksAhead() {
            return indents.stream().mapToInt(indent -> indent).sum();
        }

        int cost() {
            return 100 * beyond() + 10 * (lines.size() - 1) + blanksAhead();
        }

        int longest() {
            return lines.stream().mapToInt(String::length).max().getAsInt();
        }

        int flatOnes() {
            return ones.stream().mapToInt(one -> one).sum();
        }

        int sizeOf(int what) {
            int signs = String.join("", lines).replace(" ", "").length();
            switch (what) {
                case 0: return lines.size();
                case 1: return longest();
                case 2: return signs;
                case 3: return blanksAhead();
                case 4: return String.join("", lines).length() - signs - blanksAhead();
                case 5: return beyond();
                case 6: return cost();
                case 7: return flatOnes();
                default: return lines.get(lines.size() - 1).length();
            }
        }

        boolean isAheadOf(Layout other) {
            if (cost() != other.cost()) {
                return cost() < other.cost();
            }
            for (int nth = 0; nth < ones.size(); nth++) {
                if (!ones.get(nth).equals(other.ones.get(nth))) {
                    return ones.get(nth) == 1;
                }
            }
            return false;
        }
    }

    /** All layouts, one after the other. */
    static Layout least(Node node, int width) {
        List<Boolean> choices = new ArrayList<>();
        Layout best = null;
        while (true) {
            Layout layout = new Layout(node, width, 60, choices);
            if (best == null || layout.isAheadOf(best)) {
                best = layout;
            }
            int last = layout.asked - 1;
            while (last >= 0 && !choices.get(last)) {
                last--;
            }
            if (last < 0) {
                return best;
            }
            choices = new ArrayList<>(choices.subList(0, last));
            choices.add(false);
        }
    }

    /** The TREE of CODE. */
    static final class Tree {
        final char kind;
        final String name;
        final List<Tree> parts = new ArrayList<>();

        Tree(char kind, String name) {
            this.kind = kind;
            this.name = name;
        }

        int count(char ofKind) {
            int all = kind == ofKind ? 1 : 0;
            for (Tree part : parts) {
                all += part.count(ofKind);
            }
            return all;
        }

        int depth() {
            int most = 0;
            for (Tree part : parts) {
                most = Math.max(most, part.depth());
            }
            return most + 1;
        }

        private boolean isBracketed(Tree part) {
            return kind == '+' && part.kind == '+' || kind == '*' && (part.kind == '+' || part.kind == '*');
        }

        String plain() {
            List<String> all = new ArrayList<>();
            for (Tree part : parts) {
                all.add(isBracketed(part) ? "(" + part.plain() + ")" : part.plain());
            }
            switch (kind) {
                case 'n': return name;
                case 'c': return name + "(" + String.join(",", all) + ")";
                case 'l': return "[" + String.join(",", all) + "]";
                default: return String.join(String.valueOf(kind), all);
            }
        }

        private static Node text(String text) {
            return new Node(TEXT, text, 0);
        }

        private static Node mark(int kind) {
            return new Node(kind, "", 0);
        }

        Node document() {
            if (kind == 'n') {
                return text(name);
            }
            if (kind == 'c' || kind == 'l') {
                return kind == 'c' ? ofArguments(name + "(", ")") : ofArguments("[", "]");
            }
            Node all = new Node(JOIN, "", 0);
            for (Tree part : parts) {
                if (!all.parts.isEmpty() && kind == '+') {
                    all.parts.add(mark(LINE));
                }
                if (!all.parts.isEmpty()) {
                    all.parts.add(text(String.valueOf(kind)));
                }
                Node inside = part.document();
                all.parts.add(isBracketed(part) ? new Node(JOIN, "", 0, text("("), inside, text(")")) : inside);
            }
            return kind == '+' ? new Node(GROUP, "", 0, new Node(ALIGN, "", 0, all)) : all;
        }

        private Node ofArguments(String head, String tail) {
            if (parts.isEmpty()) {
                return text(head + tail);
            }
            Node inside = new Node(JOIN, "", 0, mark(CUT));
            for (Tree part : parts) {
                if (inside.parts.size() > 1) {
                    inside.parts.add(text(","));
                    inside.parts.add(mark(LINE));
                }
                inside.parts.add(part.document());
            }
            Node nested = new Node(NEST, "", 2, inside);
            return new Node(GROUP, "", 0, new Node(JOIN, "", 0, text(head), nested, mark(CUT), text(tail)));
        }
    }

    /** Says yes or no to a text, and what it is, by going down from the whole to its parts. */
    private static final class Parser {
        private final String signs;
        private int place = 0;

        Parser(String signs) {
            this.signs = signs;
        }

        private static final class No extends RuntimeException {
            private static final long serialVersionUID = 1;
        }

        private char sign() {
            return place < signs.length() ? signs.charAt(place) : '.';
        }

        private void pass(char sign) {
            if (sign() != sign) {
                throw new No();
            }
            place++;
        }

        private String letters() {
            int from = place;
            while (Character.isLetter(sign())) {
                place++;
            }
            if (place == from) {
                throw new No();
            }
            return signs.substring(from, place);
        }

        private Node document(int open) {
            if (open > 4) {
                throw new No();
            }
            Node all = new Node(JOIN, "", 0);
            while (Character.isLetter(sign()) || "_,;~[{<".indexOf(sign()) >= 0) {
                all.parts.add(item(open));
            }
            return all.parts.isEmpty() ? new Node(TEXT, "", 0) : all.parts.size() == 1 ? all.parts.get(0) : all;
        }

        private Node item(int open) {
            char sign = sign();
            if (Character.isLetter(sign)) {
                return new Node(TEXT, letters(), 0);
            }
            place++;
            switch (sign) {
                case '_': return new Node(LINE, "", 0);
                case ',': return new Node(CUT, "", 0);
                case ';': return new Node(HARD, "", 0);
                case '~': return new Node(SOFT, "", 0);
                case '[': return closed(new Node(GROUP, "", 0, document(open + 1)), ']');
                case '{': return closed(new Node(ALIGN, "", 0, document(open + 1)), '}');
                default: return closed(new Node(NEST, "", 2, document(open + 1)), '>');
            }
        }

        private Node closed(Node node, char closer) {
            pass(closer);
            return node;
        }

        private Tree sum(int open) {
            return row('+', open);
        }

        private Tree row(char kind, int open) {
            Tree all = new Tree(kind, "");
            all.parts.add(kind == '+' ? row('*', open) : factor(open));
            while (sign() == kind) {
                place++;
                all.parts.add(kind == '+' ? row('*', open) : factor(open));
            }
            return all.parts.size() == 1 ? all.parts.get(0) : all;
        }

        private Tree factor(int open) {
            if (sign() == '(') {
                opened(open);
                Tree inside = sum(open + 1);
                pass(')');
                return inside;
            }
            if (sign() == '[') {
                opened(open);
                return arguments(new Tree('l', ""), ']', open + 1);
            }
            String name = letters();
            if (sign() == '(') {
                opened(open);
                return arguments(new Tree('c', name), ')', open + 1);
            }
            return new Tree('n', name);
        }

        private void opened(int open) {
            if (open == 4) {
                throw new No();
            }
            place++;
        }

        private Tree arguments(Tree all, char closer, int open) {
            if (sign() != closer) {
                all.parts.add(sum(open));
                while (sign() == ',') {
                    place++;
                    all.parts.add(sum(open));
                }
            }
            pass(closer);
            return all;
        }
    }

    static Node documentOf(String signs) {
        try {
            Parser parser = new Parser(signs);
            Node node = parser.document(0);
            return parser.place == signs.length() ? node : null;
        } catch (Parser.No no) {
            return null;
        }
    }

    static Tree codeOf(String signs) {
        try {
            Parser parser = new Parser(signs);
            Tree tree = parser.sum(0);
            return parser.place == signs.length() ? tree : null;
        } catch (Parser.No no) {
            return null;
        }
    }

    /** By what FAULT means: which beginnings can be ended somehow. An operand and up to 4 closing brackets always do. */
    static int faultOf(String signs, boolean isCode) {
        if (isCode ? codeOf(signs) != null : documentOf(signs) != null) {
            return NONE;
        }
        int length = signs.length();
        while (length > 0 && !canEnd(signs.substring(0, length), isCode, 4)
            && !(isCode && canEnd(signs.substring(0, length) + "a", true, 4))) {
            length--;
        }
        return length;
    }

    private static boolean canEnd(String signs, boolean isCode, int closers) {
        if (isCode ? codeOf(signs) != null : documentOf(signs) != null) {
            return true;
        }
        if (closers == 0) {
            return false;
        }
        for (char closer : (isCode ? ")]" : "]}>").toCharArray()) {
            if (canEnd(signs + closer, isCode, closers - 1)) {
                return true;
            }
        }
        return false;
    }

    // ---- the face

    final List<Node> nodes = new ArrayList<>();
    private int width = 20;
    private int ribbon = 60;
    private String typed = "";
    private Tree code = null;
    private int told = 0;
    private int knocks = 0;
    private int made = 0;

    private static void need(boolean holds, RuntimeException otherwise) {
        if (!holds) {
            throw otherwise;
        }
    }

    private void needNode(int node) {
        need(node >= 0 && node < nodes.size(), new IndexOutOfBoundsException());
    }

    private void needRange(int value, int least, int most) {
        need(value >= least && value <= most, new IllegalArgumentException());
    }

    private int add(Node node) {
        need(nodes.size() < 80 && node.leaves().size() <= 60 && node.depth() <= 20, new IllegalStateException());
        nodes.add(node);
        made++;
        return nodes.size() - 1;
    }

    private void needLight(int node) {
        need(nodes.get(node).leaves().size() <= 12, new IllegalStateException());
    }

    private Layout layout(int node) {
        return new Layout(nodes.get(node), width, ribbon, null);
    }

    private Layout codeLayout() {
        return new Layout(code.document(), width, ribbon, null);
    }

    int word(int letter, int length) {
        needRange(letter, 0, 25);
        needRange(length, 1, 9);
        return add(new Node(TEXT, String.valueOf((char) ('a' + letter)).repeat(length), 0));
    }

    int mark(int kind) {
        needRange(kind, 1, 4);
        return add(new Node(kind, "", 0));
    }

    int join(int one, int other) {
        needNode(one);
        needNode(other);
        return add(new Node(JOIN, "", 0, nodes.get(one), nodes.get(other)));
    }

    int nest(int node, int by) {
        needNode(node);
        needRange(by, 0, 8);
        return add(new Node(NEST, "", by, nodes.get(node)));
    }

    int align(int node) {
        needNode(node);
        return add(new Node(ALIGN, "", 0, nodes.get(node)));
    }

    int group(int node) {
        needNode(node);
        return add(new Node(GROUP, "", 0, nodes.get(node)));
    }

    int fill(int first, int last) {
        needNode(first);
        needNode(last);
        need(first <= last, new IllegalArgumentException());
        Node all = new Node(JOIN, "", 0);
        for (int node = first; node <= last; node++) {
            if (node > first) {
                all.parts.add(new Node(SOFT, "", 0));
            }
            all.parts.add(nodes.get(node));
        }
        return add(all);
    }

    int forget() {
        int before = nodes.size();
        nodes.clear();
        return before;
    }

    int width(int now) {
        needRange(now, 1, 60);
        int before = width;
        width = now;
        return before;
    }

    int ribbon(int now) {
        needRange(now, 1, 60);
        int before = ribbon;
        ribbon = now;
        return before;
    }

    int say(int... codes) {
        for (int code : codes) {
            needRange(code, -1, 21);
        }
        String after = typed;
        for (int code : codes) {
            if (code == 21) {
                after = "";
            } else if (code == 20) {
                after = after.substring(0, Math.max(0, after.length() - 1));
            } else if (code >= 0) {
                after += CODES.charAt(code);
            }
            need(after.length() <= 60, new IllegalStateException());
        }
        typed = after;
        return typed.length();
    }

    int read() {
        need(nodes.size() < 80, new IllegalStateException());
        Node node = documentOf(typed);
        return node == null || node.leaves().size() > 60 || node.depth() > 20 ? NONE : add(node);
    }

    int code() {
        Tree tree = codeOf(typed);
        if (tree == null) {
            return NONE;
        }
        code = tree;
        return ofCode(1);
    }

    int blank() {
        told++;
        return -9;
    }

    int knock() {
        return ++knocks;
    }

    int ofNode(int node, int what) {
        needNode(node);
        needRange(what, 0, 7);
        Node it = nodes.get(node);
        switch (what) {
            case 0: return it.kind;
            case 1: return it.leaves().size();
            case 2: return it.depth();
            case 3: return it.isOpen() ? 1 : 0;
            case 4: return it.isOpen() ? NONE : it.flat().length();
            case 5: return (int) it.leaves().stream().filter(leaf -> leaf.kind == TEXT).count();
            case 6: return it.choices();
            default: return it.by;
        }
    }

    String flat(int node) {
        needNode(node);
        return nodes.get(node).isOpen() ? "!" : nodes.get(node).flat();
    }

    private static String nth(Layout layout, int nth) {
        return nth < layout.lines.size() ? layout.lines.get(nth) : "!";
    }

    String line(int node, int nth) {
        needNode(node);
        needRange(nth, 0, Integer.MAX_VALUE);
        return nth(layout(node), nth);
    }

    int measure(int node, int what) {
        needNode(node);
        needRange(what, 0, 8);
        return layout(node).sizeOf(what);
    }

    int at(int node, int line, int column) {
        needNode(node);
        List<String> lines = layout(node).lines;
        if (line < 0 || line >= lines.size() || column < 0 || column >= lines.get(line).length()) {
            return blank();
        }
        char sign = lines.get(line).charAt(column);
        return sign == ' ' ? 0 : sign - 'a' + 1;
    }

    int where(int node, int nth, boolean isColumn) {
        needNode(node);
        needRange(nth, 0, Integer.MAX_VALUE);
        List<int[]> texts = layout(node).texts;
        return nth < texts.size() ? texts.get(nth)[isColumn ? 1 : 0] : NONE;
    }

    int isOne(int node, int nth) {
        needNode(node);
        needRange(nth, 0, Integer.MAX_VALUE);
        List<Integer> ones = layout(node).ones;
        return nth < ones.size() ? ones.get(nth) : NONE;
    }

    int differ(int one, int other, boolean isLeast) {
        needNode(one);
        needNode(other);
        if (isLeast) {
            needLight(one);
            needLight(other);
        }
        List<String> lines = (isLeast ? least(nodes.get(one), width) : layout(one)).lines;
        List<String> others = (isLeast ? least(nodes.get(other), width) : layout(other)).lines;
        int same = 0;
        while (same < lines.size() && same < others.size() && lines.get(same).equals(others.get(same))) {
            same++;
        }
        return same == lines.size() && same == others.size() ? NONE : same;
    }

    String typed() {
        return typed;
    }

    int fault(boolean isCode) {
        return faultOf(typed, isCode);
    }

    int ofCode(int what) {
        needRange(what, 0, 9);
        if (code == null) {
            return 0;
        }
        switch (what) {
            case 0: return 1;
            case 1: return code.count('n') + code.count('c');
            case 2: return code.count('c');
            case 3: return code.count('l');
            case 4: return code.count('+');
            case 5: return code.count('*');
            case 6: return code.depth();
            case 7: return code.plain().length();
            case 8: return code.document().leaves().size();
            default: return codeLayout().lines.size();
        }
    }

    String plain() {
        return code == null ? "" : code.plain();
    }

    String codeLine(int nth) {
        needRange(nth, 0, Integer.MAX_VALUE);
        return code == null ? "!" : nth(codeLayout(), nth);
    }

    int house(int what) {
        needRange(what, 0, 7);
        int[] all = {nodes.size(), width, ribbon, typed.length(), told, knocks, made,
            nodes.stream().mapToInt(node -> node.leaves().size()).sum()};
        return all[what];
    }

    boolean fits(int node, int column) {
        needNode(node);
        needRange(column, 0, 60);
        return !nodes.get(node).isOpen() && column + nodes.get(node).flat().length() <= width;
    }

    int would(int node, int inWidth, int what) {
        needNode(node);
        needRange(inWidth, 1, 60);
        needRange(what, 0, 8);
        return new Layout(nodes.get(node), inWidth, ribbon, null).sizeOf(what);
    }

    int narrowest(int node) {
        needNode(node);
        for (int room = 1; room <= 60; room++) {
            if (new Layout(nodes.get(node), room, ribbon, null).beyond() == 0) {
                return room;
            }
        }
        return NONE;
    }

    int least(int node, int what) {
        needNode(node);
        needRange(what, 0, 3);
        needLight(node);
        Layout layout = least(nodes.get(node), width);
        int[] all = {layout.cost(), layout.lines.size(), layout.flatOnes(), layout.longest()};
        return all[what];
    }

    String leastLine(int node, int nth) {
        needNode(node);
        needRange(nth, 0, Integer.MAX_VALUE);
        needLight(node);
        return nth(least(nodes.get(node), width), nth);
    }

    /** What the document calls SOUND follows from the rest of it. */
    boolean isSound() {
        return true;
    }

    long digest() {
        List<Long> all = new ArrayList<>();
        for (int what = 0; what <= 7; what++) {
            all.add((long) house(what));
        }
        for (int node = nodes.size() - 1; node >= 0 && node >= nodes.size() - 4; node--) {
            for (int what = 0; what <= 7; what++) {
                all.add((long) ofNode(node, what));
            }
            for (int what = 0; what <= 8; what++) {
                all.add((long) measure(node, what));
            }
            layout(node).lines.forEach(line -> all.add((long) line.length()));
        }
        int last = nodes.size() - 1;
        if (last >= 0 && ofNode(last, 1) <= 12) {
            for (int what = 0; what <= 3; what++) {
                all.add((long) least(last, what));
            }
        }
        all.add((long) typed.length());
        all.add((long) fault(false));
        all.add((long) fault(true));
        for (int what = 0; what <= 9; what++) {
            all.add((long) ofCode(what));
        }
        if (code != null) {
            codeLayout().lines.forEach(line -> all.add((long) line.length()));
        }
        all.add(isSound() ? 1L : 0L);
        long sum = 8287;
        for (long value : all) {
            sum = sum * 31 + value;
        }
        return sum;
    }
}
