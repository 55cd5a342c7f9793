/** Documents laid out in a width, documents typed in signs, and code that is typed, laid out and read again. */
public final class Nestprint {
    private static final int NONE = -1;
    private static final int BLANK_TOLD = -9;

    private static final int TEXT = 0;
    private static final int LINE = 1;
    private static final int CUT = 2;
    private static final int HARD = 3;
    private static final int SOFT = 4;
    private static final int JOIN = 5;
    private static final int NEST = 6;
    private static final int ALIGN = 7;
    private static final int GROUP = 8;
    /** Where a NEST, an ALIGN or a GROUP ends; only a script has it. */
    private static final int END = 9;

    /** The ways in which it is chosen what is flat: by fitting, by trying it, nothing, as wished for the LEAST, all. */
    private static final int FIT = 0;
    private static final int TRY = 1;
    private static final int BREAK = 2;
    private static final int WISH = 3;
    private static final int FLAT = 4;

    /** What a TREE is of. */
    private static final int NAME = 0;
    private static final int CALL = 1;
    private static final int LIST = 2;
    private static final int SUM = 3;
    private static final int PRODUCT = 4;
    /** What a "(" opens that no NAME stands ahead of. */
    private static final int BRACKET = 5;

    private static final int MOST_NODES = 80;
    private static final int MOST_WEIGHT = 60;
    private static final int MOST_DEPTH = 20;
    private static final int MOST_LEAST_WEIGHT = 12;
    private static final int MOST_SIGNS = 60;
    private static final int MOST_WIDTH = 60;
    private static final int MOST_OPEN = 4;
    private static final int MOST_LENGTH = 9;
    private static final int MOST_BY = 8;
    private static final int TYPED_BY = 2;

    /** A read makes one place for each sign at most, and one for the whole. */
    private static final int MOST_PLACES = MOST_NODES * (MOST_SIGNS + 2);
    /** 60 leaves, each begun and ended in at most 19 others, and what isSound puts round them. */
    private static final int MOST_STEPS = 2500;
    /** 60 texts of 60 signs, blanks, and what nests can push them to the right. */
    private static final int MOST_COLUMNS = 6000;
    /** 60 leaves can make 61 lines; in 22 others, at most, one can be at once, with two numbers held of each. */
    private static final int MOST_LINES = 100;
    /** 12 leaves, each in at most 19 groups. */
    private static final int MOST_WISHES = 300;
    private static final int MOST_TRIES = 1000000;
    private static final int NO_LIMIT = 2000000000;

    private static final String CODES = "abcdef_,;~[]{}<>()+*";
    private static final int TAKE_LAST = 20;
    private static final int TAKE_ALL = 21;

    private final Nodes nodes = new Nodes();
    private final Row typed = new Row(MOST_SIGNS);
    private final Row codes = new Row(6);
    private final DocumentReader documents = new DocumentReader();
    private final CodeReader coder = new CodeReader();
    private final Layout bench = new Layout(nodes.signs());
    private final Layout other = new Layout(nodes.signs());
    private final Sound sound = new Sound(nodes, coder, bench, other);
    private final StringBuilder page = new StringBuilder();
    private Tree kept = new Tree();
    private Tree spare = new Tree();
    private int width = 20;
    private int ribbon = 60;
    private int told = 0;
    private int knocks = 0;
    private int made = 0;

    public Nestprint() {
    }

    // ---- nodes

    public int word(int letter, int length) throws IllegalArgumentException, IllegalStateException {
        if (letter < 0 || letter > 25) {
            throw new IllegalArgumentException("letter is 0 to 25");
        }
        if (length < 1 || length > MOST_LENGTH) {
            throw new IllegalArgumentException("length is 1 to 9");
        }
        needNumber();
        for (int sign = 0; sign < length; sign++) {
            nodes.addSign('a' + letter);
        }
        return numbered(nodes.addText(length));
    }

    public int mark(int kind) throws IllegalArgumentException, IllegalStateException {
        if (kind < LINE || kind > SOFT) {
            throw new IllegalArgumentException("kind is 1 to 4");
        }
        needNumber();
        return numbered(nodes.addMark(kind));
    }

    public int join(int one, int other) throws IndexOutOfBoundsException, IllegalStateException {
        needNode(one);
        needNode(other);
        needNumber();
        needRoom(nodes.weightOf(one) + nodes.weightOf(other), Math.max(nodes.depthOf(one), nodes.depthOf(other)));
        nodes.addPart(nodes.placeOf(one));
        nodes.addPart(nodes.placeOf(other));
        return numbered(nodes.addOver(JOIN, 0, 2));
    }

    public int nest(int node, int by) throws IndexOutOfBoundsException, IllegalArgumentException, IllegalStateException {
        needNode(node);
        if (by < 0 || by > MOST_BY) {
            throw new IllegalArgumentException("by is 0 to 8");
        }
        return over(NEST, node, by);
    }

    public int align(int node) throws IndexOutOfBoundsException, IllegalStateException {
        needNode(node);
        return over(ALIGN, node, 0);
    }

    public int group(int node) throws IndexOutOfBoundsException, IllegalStateException {
        needNode(node);
        return over(GROUP, node, 0);
    }

    public int fill(int first, int last) throws IndexOutOfBoundsException, IllegalArgumentException, IllegalStateException {
        needNode(first);
        needNode(last);
        if (first > last) {
            throw new IllegalArgumentException("first is above last");
        }
        needNumber();
        int weight = last - first;
        int depth = 1;
        for (int node = first; node <= last; node++) {
            weight += nodes.weightOf(node);
            depth = Math.max(depth, nodes.depthOf(node));
        }
        needRoom(weight, depth);
        int between = last > first ? nodes.addMark(SOFT) : NONE;
        for (int node = first; node <= last; node++) {
            if (node > first) {
                nodes.addPart(between);
            }
            nodes.addPart(nodes.placeOf(node));
        }
        return numbered(nodes.addOver(JOIN, 0, 2 * (last - first) + 1));
    }

    public int forget() {
        int before = nodes.count();
        nodes.clear();
        return before;
    }

    // ---- the room, and what is typed

    public int width(int width) throws IllegalArgumentException {
        needWidth(width);
        int before = this.width;
        this.width = width;
        return before;
    }

    public int ribbon(int ribbon) throws IllegalArgumentException {
        if (ribbon < 1 || ribbon > MOST_WIDTH) {
            throw new IllegalArgumentException("ribbon is 1 to 60");
        }
        int before = this.ribbon;
        this.ribbon = ribbon;
        return before;
    }

    public int say(int a, int b, int c, int d, int e, int f) throws IllegalArgumentException, IllegalStateException {
        codes.clear();
        codes.add(a);
        codes.add(b);
        codes.add(c);
        codes.add(d);
        codes.add(e);
        codes.add(f);
        needCodes();
        for (int nth = 0; nth < codes.size(); nth++) {
            type(codes.get(nth));
        }
        return typed.size();
    }

    public int read() throws IllegalStateException {
        needNumber();
        if (documents.faultOf(typed) != NONE) {
            return NONE;
        }
        // 60 signs make 60 leaves at most, and 4 open brackets a depth of 10: neither WEIGHT nor DEPTH can be too much.
        return numbered(documents.build(typed, nodes));
    }

    public int code() {
        if (coder.faultOf(typed, spare) != NONE) {
            return NONE;
        }
        Tree before = kept;
        kept = spare;
        spare = before;
        kept.unroll(bench.script());
        return kept.countOf(NAME) + kept.countOf(CALL);
    }

    public int blank() {
        told++;
        return BLANK_TOLD;
    }

    public int knock() {
        knocks++;
        return knocks;
    }

    // ---- what is asked of nodes

    public int ofNode(int node, int what) throws IndexOutOfBoundsException, IllegalArgumentException {
        needNode(node);
        if (what < 0 || what > 7) {
            throw new IllegalArgumentException("what is 0 to 7");
        }
        nodes.unrollOn(bench.script(), node);
        return factOf(node, what);
    }

    public String flat(int node) throws IndexOutOfBoundsException {
        needNode(node);
        nodes.unrollOn(bench.script(), node);
        if (bench.script().isAllOpen()) {
            return "!";
        }
        bench.lay(width, ribbon, FLAT, NO_LIMIT);
        return lineOf(bench, 0);
    }

    public String line(int node, int nth) throws IndexOutOfBoundsException, IllegalArgumentException {
        needNode(node);
        needNth(nth);
        layOn(bench, node, width);
        return lineOf(bench, nth);
    }

    public int measure(int node, int what) throws IndexOutOfBoundsException, IllegalArgumentException {
        needNode(node);
        needMeasure(what);
        layOn(bench, node, width);
        return bench.sizeOf(what);
    }

    public int at(int node, int line, int column) throws IndexOutOfBoundsException {
        needNode(node);
        layOn(bench, node, width);
        if (line < 0 || line >= bench.lineCount() || column < 0 || column >= bench.lengthOf(line)) {
            told++;
            return BLANK_TOLD;
        }
        bench.spell(line);
        return numberOf(bench.ink().get(column));
    }

    public int where(int node, int nth, boolean isColumn) throws IndexOutOfBoundsException, IllegalArgumentException {
        needNode(node);
        needNth(nth);
        layOn(bench, node, width);
        int step = bench.script().stepOf(nth, TEXT, TEXT);
        if (step == NONE) {
            return NONE;
        }
        return isColumn ? bench.columnOf(step) : bench.lineWith(step);
    }

    public int isOne(int node, int nth) throws IndexOutOfBoundsException, IllegalArgumentException {
        needNode(node);
        needNth(nth);
        layOn(bench, node, width);
        int step = bench.script().stepOf(nth, GROUP, SOFT);
        return step == NONE ? NONE : bench.oneOf(step);
    }

    public int differ(int one, int other, boolean isLeast) throws IndexOutOfBoundsException, IllegalStateException {
        needNode(one);
        needNode(other);
        if (isLeast) {
            needLight(one);
            needLight(other);
            layLeastOn(this.bench, one);
            layLeastOn(this.other, other);
        } else {
            layOn(this.bench, one, width);
            layOn(this.other, other, width);
        }
        return this.bench.firstDifference(this.other);
    }

    // ---- what is asked of what is typed

    public String typed() {
        return textOf(typed);
    }

    public int fault(boolean isCode) {
        return isCode ? coder.faultOf(typed, spare) : documents.faultOf(typed);
    }

    public int ofCode(int what) throws IllegalArgumentException {
        if (what < 0 || what > 9) {
            throw new IllegalArgumentException("what is 0 to 9");
        }
        if (!kept.isThere()) {
            return 0;
        }
        layCode();
        return codeFactOf(what);
    }

    public String plain() {
        return textOf(kept.signsOfPlain());
    }

    public String codeLine(int nth) throws IllegalArgumentException {
        needNth(nth);
        if (!kept.isThere()) {
            return "!";
        }
        layCode();
        return lineOf(bench, nth);
    }

    public int house(int what) throws IllegalArgumentException {
        if (what < 0 || what > 7) {
            throw new IllegalArgumentException("what is 0 to 7");
        }
        return stateOf(what);
    }

    // ---- what would be (nothing is changed)

    public boolean fits(int node, int column) throws IndexOutOfBoundsException, IllegalArgumentException {
        needNode(node);
        if (column < 0 || column > MOST_WIDTH) {
            throw new IllegalArgumentException("column is 0 to 60");
        }
        nodes.unrollOn(bench.script(), node);
        return !bench.script().isAllOpen() && column + bench.script().flatLength() <= width;
    }

    public int would(int node, int width, int what) throws IndexOutOfBoundsException, IllegalArgumentException {
        needNode(node);
        needWidth(width);
        needMeasure(what);
        layOn(bench, node, width);
        return bench.sizeOf(what);
    }

    public int narrowest(int node) throws IndexOutOfBoundsException {
        needNode(node);
        nodes.unrollOn(bench.script(), node);
        for (int room = 1; room <= MOST_WIDTH; room++) {
            bench.lay(room, ribbon, FIT, NO_LIMIT);
            if (bench.beyond() == 0) {
                return room;
            }
        }
        return NONE;
    }

    public int least(int node, int what) throws IndexOutOfBoundsException, IllegalArgumentException, IllegalStateException {
        needNode(node);
        if (what < 0 || what > 3) {
            throw new IllegalArgumentException("what is 0 to 3");
        }
        needLight(node);
        layLeastOn(bench, node);
        return bench.leastOf(what);
    }

    public String leastLine(int node, int nth) throws IndexOutOfBoundsException, IllegalArgumentException, IllegalStateException {
        needNode(node);
        needNth(nth);
        needLight(node);
        layLeastOn(bench, node);
        return lineOf(bench, nth);
    }

    public boolean isSound() {
        return sound.holds(kept, spare, width, ribbon);
    }

    public long digest() {
        long sum = 8287;
        for (int what = 0; what <= 7; what++) {
            sum = sum * 31 + stateOf(what);
        }
        int last = nodes.count() - 1;
        for (int node = last; node >= 0 && node > last - 4; node--) {
            sum = withNode(sum, node);
        }
        if (last >= 0 && nodes.weightOf(last) <= MOST_LEAST_WEIGHT) {
            layLeastOn(bench, last);
            for (int what = 0; what <= 3; what++) {
                sum = sum * 31 + bench.leastOf(what);
            }
        }
        sum = sum * 31 + typed.size();
        sum = sum * 31 + documents.faultOf(typed);
        sum = sum * 31 + coder.faultOf(typed, spare);
        sum = withCode(sum);
        return sum * 31 + (sound.holds(kept, spare, width, ribbon) ? 1 : 0);
    }

    // ---- what is tested ahead of a call

    private void needNode(int node) {
        if (!nodes.has(node)) {
            throw new IndexOutOfBoundsException("no such node");
        }
    }

    private void needNumber() {
        if (nodes.count() >= MOST_NODES) {
            throw new IllegalStateException("there are 80 nodes");
        }
    }

    private void needRoom(int weight, int depthInside) {
        if (weight > MOST_WEIGHT) {
            throw new IllegalStateException("the weight is above 60");
        }
        if (depthInside + 1 > MOST_DEPTH) {
            throw new IllegalStateException("the depth is above 20");
        }
    }

    private void needLight(int node) {
        if (nodes.weightOf(node) > MOST_LEAST_WEIGHT) {
            throw new IllegalStateException("the weight is above 12");
        }
    }

    private void needWidth(int width) {
        if (width < 1 || width > MOST_WIDTH) {
            throw new IllegalArgumentException("width is 1 to 60");
        }
    }

    private void needMeasure(int what) {
        if (what < 0 || what > 8) {
            throw new IllegalArgumentException("what is 0 to 8");
        }
    }

    private void needNth(int nth) {
        if (nth < 0) {
            throw new IllegalArgumentException("nth is below 0");
        }
    }

    /** All codes are tested ahead of the first that is typed, as a call that throws changes nothing. */
    private void needCodes() {
        for (int nth = 0; nth < codes.size(); nth++) {
            if (codes.get(nth) < NONE || codes.get(nth) > TAKE_ALL) {
                throw new IllegalArgumentException("a code is -1 to 21");
            }
        }
        int length = typed.size();
        for (int nth = 0; nth < codes.size(); nth++) {
            length = lengthAfter(length, codes.get(nth));
            if (length > MOST_SIGNS) {
                throw new IllegalStateException("there would be more than 60 signs");
            }
        }
    }

    // ---- parts of the calls above

    private static int lengthAfter(int length, int code) {
        if (code == NONE) {
            return length;
        }
        if (code == TAKE_ALL) {
            return 0;
        }
        if (code == TAKE_LAST) {
            return length > 0 ? length - 1 : 0;
        }
        return length + 1;
    }

    private void type(int code) {
        if (code >= 0 && code < CODES.length()) {
            typed.add(CODES.charAt(code));
        } else {
            typed.cut(lengthAfter(typed.size(), code));
        }
    }

    private int numbered(int place) {
        made++;
        return nodes.number(place);
    }

    private int over(int kind, int node, int by) {
        needNumber();
        needRoom(nodes.weightOf(node), nodes.depthOf(node));
        nodes.addPart(nodes.placeOf(node));
        return numbered(nodes.addOver(kind, by, 1));
    }

    private void layOn(Layout layout, int node, int room) {
        nodes.unrollOn(layout.script(), node);
        layout.lay(room, ribbon, FIT, NO_LIMIT);
    }

    private void layLeastOn(Layout layout, int node) {
        nodes.unrollOn(layout.script(), node);
        layout.layLeast(width);
    }

    private void layCode() {
        kept.unroll(bench.script());
        bench.lay(width, ribbon, FIT, NO_LIMIT);
    }

    private String lineOf(Layout layout, int nth) {
        if (nth >= layout.lineCount()) {
            return "!";
        }
        layout.spell(nth);
        return textOf(layout.ink());
    }

    private String textOf(Row signs) {
        page.setLength(0);
        for (int sign = 0; sign < signs.size(); sign++) {
            page.append((char) signs.get(sign));
        }
        return page.toString();
    }

    private static int numberOf(int sign) {
        if (sign == ' ') {
            return 0;
        }
        return isLetter(sign) ? sign - 'a' + 1 : 27;
    }

    private static boolean isLetter(int sign) {
        return sign >= 'a' && sign <= 'z';
    }

    /** Of a node that the bench's script holds. */
    private int factOf(int node, int what) {
        Script script = bench.script();
        switch (what) {
            case 0:
                return nodes.kindOf(node);
            case 1:
                return nodes.weightOf(node);
            case 2:
                return nodes.depthOf(node);
            case 3:
                return script.isAllOpen() ? 1 : 0;
            case 4:
                return script.isAllOpen() ? NONE : script.flatLength();
            case 5:
                return script.countOf(TEXT);
            case 6:
                return script.countOf(GROUP) + script.countOf(SOFT);
            default:
                return nodes.byOf(node);
        }
    }

    /** Of the code that is laid out on the bench. */
    private int codeFactOf(int what) {
        switch (what) {
            case 0:
                return 1;
            case 1:
                return kept.countOf(NAME) + kept.countOf(CALL);
            case 2:
                return kept.countOf(CALL);
            case 3:
                return kept.countOf(LIST);
            case 4:
                return kept.countOf(SUM);
            case 5:
                return kept.countOf(PRODUCT);
            case 6:
                return kept.depth();
            case 7:
                return kept.signsOfPlain().size();
            case 8:
                return bench.script().weight();
            default:
                return bench.lineCount();
        }
    }

    private int stateOf(int what) {
        switch (what) {
            case 0:
                return nodes.count();
            case 1:
                return width;
            case 2:
                return ribbon;
            case 3:
                return typed.size();
            case 4:
                return told;
            case 5:
                return knocks;
            case 6:
                return made;
            default:
                return nodes.weightOfAll();
        }
    }

    private long withNode(long before, int node) {
        long sum = before;
        layOn(bench, node, width);
        for (int what = 0; what <= 7; what++) {
            sum = sum * 31 + factOf(node, what);
        }
        for (int what = 0; what <= 8; what++) {
            sum = sum * 31 + bench.sizeOf(what);
        }
        return withLines(sum);
    }

    private long withCode(long before) {
        long sum = before;
        if (!kept.isThere()) {
            for (int what = 0; what <= 9; what++) {
                sum = sum * 31;
            }
            return sum;
        }
        layCode();
        for (int what = 0; what <= 9; what++) {
            sum = sum * 31 + codeFactOf(what);
        }
        return withLines(sum);
    }

    private long withLines(long before) {
        long sum = before;
        for (int line = 0; line < bench.lineCount(); line++) {
            sum = sum * 31 + bench.lengthOf(line);
        }
        return sum;
    }

    /** A row of numbers with a fixed room: outside of it nothing is written, and 0 is read. */
    private static final class Row {
        private final int[] cells;
        private int size = 0;

        Row(int most) {
            cells = new int[most > 0 ? most : 0];
        }

        int size() {
            return size;
        }

        int get(int place) {
            return place >= 0 && place < size && place < cells.length ? cells[place] : 0;
        }

        void set(int place, int value) {
            if (place >= 0 && place < size && place < cells.length) {
                cells[place] = value;
            }
        }

        void add(int value) {
            if (size >= 0 && size < cells.length) {
                cells[size] = value;
                size++;
            }
        }

        int last() {
            return get(size - 1);
        }

        int take() {
            int value = get(size - 1);
            cut(size - 1);
            return value;
        }

        void cut(int length) {
            if (length >= 0 && length < size) {
                size = length;
            }
        }

        void clear() {
            size = 0;
        }

        void copy(Row from) {
            size = 0;
            for (int place = 0; place < from.size; place++) {
                add(from.get(place));
            }
        }

        int sum() {
            int all = 0;
            for (int place = 0; place < size; place++) {
                all += get(place);
            }
            return all;
        }

        boolean isSame(Row other) {
            if (size != other.size) {
                return false;
            }
            for (int place = 0; place < size; place++) {
                if (get(place) != other.get(place)) {
                    return false;
                }
            }
            return true;
        }
    }

    /** All nodes in places of one pool: those with a number, and those without (in a read one, or between filled ones). */
    private static final class Nodes {
        private final Row numbers = new Row(MOST_NODES);
        private final Row kinds = new Row(MOST_PLACES);
        /** Where the signs of a TEXT begin, or the parts of others. */
        private final Row starts = new Row(MOST_PLACES);
        private final Row counts = new Row(MOST_PLACES);
        private final Row bys = new Row(MOST_PLACES);
        private final Row weights = new Row(MOST_PLACES);
        private final Row depths = new Row(MOST_PLACES);
        private final Row parts = new Row(MOST_PLACES);
        private final Row signs = new Row(MOST_PLACES);

        int count() {
            return numbers.size();
        }

        boolean has(int node) {
            return node >= 0 && node < numbers.size();
        }

        int placeOf(int node) {
            return numbers.get(node);
        }

        int kindOf(int node) {
            return kinds.get(numbers.get(node));
        }

        int weightOf(int node) {
            return weights.get(numbers.get(node));
        }

        int depthOf(int node) {
            return depths.get(numbers.get(node));
        }

        int byOf(int node) {
            return bys.get(numbers.get(node));
        }

        Row signs() {
            return signs;
        }

        int weightOfAll() {
            int all = 0;
            for (int node = 0; node < numbers.size(); node++) {
                all += weightOf(node);
            }
            return all;
        }

        void clear() {
            numbers.clear();
            kinds.clear();
            starts.clear();
            counts.clear();
            bys.clear();
            weights.clear();
            depths.clear();
            parts.clear();
            signs.clear();
        }

        int number(int place) {
            numbers.add(place);
            return numbers.size() - 1;
        }

        void addSign(int sign) {
            signs.add(sign);
        }

        void addPart(int place) {
            parts.add(place);
        }

        /** A TEXT of the signs that were added last. */
        int addText(int length) {
            return addPlace(TEXT, signs.size() - length, length, 0, 1, 1);
        }

        int addMark(int kind) {
            return addPlace(kind, 0, 0, 0, 1, 1);
        }

        /** A node over the parts that were added last. */
        int addOver(int kind, int by, int count) {
            int weight = 0;
            int depth = 0;
            int start = parts.size() - count;
            for (int nth = start; nth < parts.size(); nth++) {
                weight += weights.get(parts.get(nth));
                depth = Math.max(depth, depths.get(parts.get(nth)));
            }
            return addPlace(kind, start, count, by, weight, depth + 1);
        }

        private int addPlace(int kind, int start, int count, int by, int weight, int depth) {
            kinds.add(kind);
            starts.add(start);
            counts.add(count);
            bys.add(by);
            weights.add(weight);
            depths.add(depth);
            return kinds.size() - 1;
        }

        void unrollOn(Script script, int node) {
            script.start(signs);
            unroll(script, numbers.get(node), 1);
            script.finish();
        }

        /** Unrolls it inside of a NEST or GROUP, and if innerBy is not NONE, inside of one more. */
        void unrollIn(Script script, int node, int kind, int by, int innerBy) {
            script.start(signs);
            script.open(kind, by);
            if (innerBy != NONE) {
                script.open(kind, innerBy);
            }
            unroll(script, numbers.get(node), 1);
            if (innerBy != NONE) {
                script.shut();
            }
            script.shut();
            script.finish();
        }

        /** Recursive: no place is deeper than 20. */
        private void unroll(Script script, int place, int level) {
            int kind = kinds.get(place);
            if (level > MOST_DEPTH) {
                return;
            }
            if (kind == TEXT) {
                script.addStep(TEXT, starts.get(place), counts.get(place));
            } else if (kind <= SOFT) {
                script.addStep(kind, 0, 0);
            } else {
                unrollParts(script, place, level);
            }
        }

        private void unrollParts(Script script, int place, int level) {
            boolean isJoin = kinds.get(place) == JOIN;
            if (!isJoin) {
                script.open(kinds.get(place), bys.get(place));
            }
            for (int nth = 0; nth < counts.get(place); nth++) {
                unroll(script, parts.get(starts.get(place) + nth), level + 1);
            }
            if (!isJoin) {
                script.shut();
            }
        }
    }

    /** What is laid out, step by step: the leaves in order, and where each NEST, ALIGN and GROUP begins and ends. */
    private static final class Script {
        private final Row kinds = new Row(MOST_STEPS);
        /** Where the signs of a TEXT begin, or by how much a NEST nests. */
        private final Row starts = new Row(MOST_STEPS);
        private final Row lengths = new Row(MOST_STEPS);
        /** The END of what begins at a step; of a leaf the next step. */
        private final Row ends = new Row(MOST_STEPS);
        private final Row opened = new Row(MOST_LINES);
        /** Of all steps ahead of one: the length of FLAT, the HARDS, the MARKS. */
        private final Row flats = new Row(MOST_STEPS + 1);
        private final Row hards = new Row(MOST_STEPS + 1);
        private final Row marks = new Row(MOST_STEPS + 1);
        /** The length of the TEXTS from a step on, up to the next MARK. */
        private final Row runs = new Row(MOST_STEPS + 1);
        private Row signs;

        Script(Row signs) {
            this.signs = signs;
        }

        void start(Row ofSigns) {
            signs = ofSigns;
            kinds.clear();
            starts.clear();
            lengths.clear();
            ends.clear();
            opened.clear();
        }

        /** Adds a leaf (only a TEXT has a start and a length), or the END of another one. */
        void addStep(int kind, int start, int length) {
            kinds.add(kind);
            starts.add(start);
            lengths.add(length);
            ends.add(kinds.size());
        }

        void open(int kind, int by) {
            opened.add(kinds.size());
            addStep(kind, by, 0);
        }

        void shut() {
            ends.set(opened.take(), kinds.size());
            addStep(END, 0, 0);
        }

        void finish() {
            flats.clear();
            hards.clear();
            marks.clear();
            int flatLength = 0;
            int hardCount = 0;
            int markCount = 0;
            for (int step = 0; step <= kinds.size(); step++) {
                flats.add(flatLength);
                hards.add(hardCount);
                marks.add(markCount);
                int kind = kinds.get(step);
                flatLength += lengths.get(step) + (kind == LINE || kind == SOFT ? 1 : 0);
                hardCount += kind == HARD ? 1 : 0;
                markCount += isMark(kind) ? 1 : 0;
            }
            findRuns();
        }

        private void findRuns() {
            runs.clear();
            for (int step = 0; step <= kinds.size(); step++) {
                runs.add(0);
            }
            for (int step = kinds.size() - 1; step >= 0; step--) {
                if (!isMark(kinds.get(step))) {
                    runs.set(step, lengths.get(step) + runs.get(step + 1));
                }
            }
        }

        private static boolean isMark(int kind) {
            return kind >= LINE && kind <= SOFT;
        }

        int size() {
            return kinds.size();
        }

        int kindOf(int step) {
            return kinds.get(step);
        }

        int byOf(int step) {
            return starts.get(step);
        }

        int lengthOf(int step) {
            return lengths.get(step);
        }

        int endOf(int step) {
            return ends.get(step);
        }

        int signOf(int step, int nth) {
            return signs.get(starts.get(step) + nth);
        }

        int flatLength() {
            return flats.get(kinds.size());
        }

        boolean isAllOpen() {
            return hards.get(kinds.size()) > 0;
        }

        boolean isOpen(int step) {
            return hards.get(ends.get(step)) > hards.get(step);
        }

        int marksIn(int step) {
            return marks.get(ends.get(step)) - marks.get(step);
        }

        /** The length of FLAT of what begins at a step, and of what FOLLOWS it. */
        int needOf(int step) {
            int end = ends.get(step);
            return flats.get(end) - flats.get(step) + runs.get(end);
        }

        /** Written sign by sign, flat, from a step on: whether it comes to its end, and to the next MARK, within the limit. */
        boolean isTriedFlat(int step, int column, int limit) {
            int reached = column;
            int end = ends.get(step);
            for (int next = step; next < kinds.size(); next++) {
                int kind = kinds.get(next);
                if (isMark(kind) && next >= end) {
                    break;
                }
                if (kind == HARD) {
                    return false;
                }
                reached += lengths.get(next) + (kind == LINE || kind == SOFT ? 1 : 0);
                if (reached > limit) {
                    return false;
                }
            }
            return reached <= limit;
        }

        int countOf(int kind) {
            int all = 0;
            for (int step = 0; step < kinds.size(); step++) {
                all += kinds.get(step) == kind ? 1 : 0;
            }
            return all;
        }

        int weight() {
            int leaves = 0;
            for (int step = 0; step < kinds.size(); step++) {
                leaves += kinds.get(step) <= SOFT ? 1 : 0;
            }
            return leaves;
        }

        /** The step of the nth one of these two kinds. */
        int stepOf(int nth, int kind, int otherKind) {
            int seen = 0;
            for (int step = 0; step < kinds.size(); step++) {
                if (kinds.get(step) == kind || kinds.get(step) == otherKind) {
                    if (seen == nth) {
                        return step;
                    }
                    seen++;
                }
            }
            return NONE;
        }

        /** Whether these are the signs of all TEXTS, one behind the other. */
        boolean hasTexts(Row all) {
            int seen = 0;
            for (int step = 0; step < kinds.size(); step++) {
                for (int nth = 0; nth < lengths.get(step); nth++) {
                    if (seen >= all.size() || all.get(seen) != signOf(step, nth)) {
                        return false;
                    }
                    seen++;
                }
            }
            return seen == all.size();
        }
    }

    /** Which GROUPS and SOFTS are wished flat (1) or broken (0), in the order in which a layout asks; flat first. */
    private static final class Wishes {
        private final Row wishes = new Row(MOST_WISHES);
        private final Row best = new Row(MOST_WISHES);
        private int asked = 0;

        void clear() {
            wishes.clear();
            best.clear();
            asked = 0;
        }

        void rewind() {
            asked = 0;
        }

        boolean isNextFlat() {
            if (asked >= wishes.size()) {
                wishes.add(1);
            }
            asked++;
            return wishes.get(asked - 1) == 1;
        }

        /** Goes on to the next wishes; those that were not asked for any more make no difference. */
        boolean turn() {
            int length = Math.min(asked, wishes.size());
            while (length > 0 && wishes.get(length - 1) == 0) {
                length--;
            }
            wishes.cut(length);
            wishes.set(length - 1, 0);
            return length > 0;
        }

        void keep() {
            best.copy(wishes);
        }

        void recall() {
            wishes.copy(best);
            asked = 0;
        }
    }

    /** A script, laid out: where its lines begin, and which of its GROUPS and SOFTS are flat. */
    private static final class Layout {
        private final Script script;
        private final Wishes wishes = new Wishes();
        /** Of each step: the column at which it begins, and 1 if it is a flat GROUP or a SOFT that is a blank. */
        private final Row columns = new Row(MOST_STEPS);
        private final Row ones = new Row(MOST_STEPS);
        /** Of each line: its first step, the blanks with which it begins, its length. */
        private final Row firsts = new Row(MOST_LINES);
        private final Row indents = new Row(MOST_LINES);
        private final Row lengths = new Row(MOST_LINES);
        /** INDENT and marksAround of what is begun, but not yet ended. */
        private final Row held = new Row(MOST_LINES);
        private final Row ink = new Row(MOST_COLUMNS);
        private int width = 1;
        private int ribbon = 1;
        private int way = FIT;
        private int right = 1;
        private int column = 0;
        private int indent = 0;
        private int cost = 0;
        /** Steps ahead of this one are flat. */
        private int flatEnd = 0;
        /** How many MARKS the innermost broken GROUP has that is not yet ended; NONE outside of all. */
        private int marksAround = NONE;

        Layout(Row signs) {
            script = new Script(signs);
        }

        Script script() {
            return script;
        }

        Row ink() {
            return ink;
        }

        /** Lays out until the cost reaches the limit: what costs as much as that is of no use any more. */
        void lay(int inWidth, int inRibbon, int byWay, int limit) {
            width = inWidth;
            ribbon = inRibbon;
            way = byWay;
            begin();
            for (int step = 0; step < script.size() && cost < limit; step++) {
                int kind = script.kindOf(step);
                boolean isOne = (kind == GROUP || kind == SOFT) && isChosenFlat(step, kind);
                columns.add(column);
                ones.add(isOne ? 1 : 0);
                if (kind == TEXT) {
                    write(script.lengthOf(step));
                } else if (kind == END) {
                    leave();
                } else if (kind <= SOFT) {
                    pass(step, kind, isOne);
                } else {
                    enter(step, kind, isOne);
                }
            }
            lengths.add(column);
        }

        private void begin() {
            columns.clear();
            ones.clear();
            firsts.clear();
            indents.clear();
            lengths.clear();
            held.clear();
            column = 0;
            indent = 0;
            cost = 0;
            flatEnd = way == FLAT ? script.size() : 0;
            marksAround = NONE;
            startLine(0, 0);
        }

        private void startLine(int step, int blanks) {
            firsts.add(step);
            indents.add(blanks);
            right = ribbon + blanks < width ? ribbon + blanks : width;
            column = 0;
            write(blanks);
        }

        private void write(int signs) {
            int from = column > width ? column : width;
            column += signs;
            cost += column > from ? 100 * (column - from) : 0;
        }

        private void pass(int step, int kind, boolean isOne) {
            // No HARD is ever flat, as nothing that is OPEN is.
            if (isOne || step < flatEnd) {
                write(kind == CUT ? 0 : 1);
                return;
            }
            lengths.add(column);
            cost += 10 + indent;
            startLine(step + 1, indent);
        }

        private void enter(int step, int kind, boolean isOne) {
            held.add(indent);
            held.add(marksAround);
            if (kind == NEST) {
                indent += script.byOf(step);
            } else if (kind == ALIGN) {
                indent = column;
            } else if (!isOne) {
                marksAround = script.marksIn(step);
            } else if (script.endOf(step) > flatEnd) {
                flatEnd = script.endOf(step);
            }
        }

        private void leave() {
            marksAround = held.take();
            indent = held.take();
        }

        private boolean isChosenFlat(int step, int kind) {
            if (step < flatEnd) {
                return true;
            }
            if (way == BREAK || script.isOpen(step)) {
                return false;
            }
            if (way == WISH) {
                // Without MARKS flat and broken are the same, and flat comes first. If all MARKS of the broken GROUP
                // around are in this one, flat would be the same as that GROUP flat, which comes first.
                int marks = script.marksIn(step);
                return marks == 0 || marks != marksAround && wishes.isNextFlat();
            }
            if (way == TRY && kind == GROUP) {
                return script.isTriedFlat(step, column, right);
            }
            return column + script.needOf(step) <= right;
        }

        /** Tries the wishes in the order that the document prefers, so the first of the least cost is the LEAST LAYOUT. */
        int layLeast(int inWidth) {
            wishes.clear();
            int best = NO_LIMIT;
            boolean isMore = true;
            for (int tries = 0; tries < MOST_TRIES && isMore; tries++) {
                wishes.rewind();
                lay(inWidth, MOST_WIDTH, WISH, best);
                if (cost < best) {
                    best = cost;
                    wishes.keep();
                }
                isMore = wishes.turn();
            }
            wishes.recall();
            lay(inWidth, MOST_WIDTH, WISH, NO_LIMIT);
            return best;
        }

        int lineCount() {
            return indents.size();
        }

        int lengthOf(int line) {
            return lengths.get(line);
        }

        int columnOf(int step) {
            return columns.get(step);
        }

        int oneOf(int step) {
            return ones.get(step);
        }

        int lineWith(int step) {
            int line = 0;
            while (line + 1 < firsts.size() && firsts.get(line + 1) <= step) {
                line++;
            }
            return line;
        }

        /** Puts the signs of a line into ink. */
        void spell(int line) {
            ink.clear();
            for (int blank = 0; blank < indents.get(line); blank++) {
                ink.add(' ');
            }
            // The last step of a line that is not the last one is the MARK that ends it.
            int end = line + 1 < firsts.size() ? firsts.get(line + 1) - 1 : script.size();
            for (int step = firsts.get(line); step < end; step++) {
                int kind = script.kindOf(step);
                if (kind == LINE || kind == SOFT) {
                    ink.add(' ');
                }
                for (int nth = 0; nth < script.lengthOf(step); nth++) {
                    ink.add(script.signOf(step, nth));
                }
            }
        }

        /** Puts the signs of all lines into a row, but no blanks. */
        void gather(Row all) {
            all.clear();
            for (int line = 0; line < indents.size(); line++) {
                spell(line);
                for (int sign = 0; sign < ink.size(); sign++) {
                    if (ink.get(sign) != ' ') {
                        all.add(ink.get(sign));
                    }
                }
            }
        }

        int firstDifference(Layout other) {
            int both = Math.min(indents.size(), other.indents.size());
            for (int line = 0; line < both; line++) {
                spell(line);
                other.spell(line);
                if (!ink.isSame(other.ink)) {
                    return line;
                }
            }
            return indents.size() == other.indents.size() ? NONE : both;
        }

        private int longest() {
            int most = 0;
            for (int line = 0; line < lengths.size(); line++) {
                most = Math.max(most, lengths.get(line));
            }
            return most;
        }

        int beyond() {
            int all = 0;
            for (int line = 0; line < lengths.size(); line++) {
                all += Math.max(0, lengths.get(line) - width);
            }
            return all;
        }

        private int inked() {
            int all = 0;
            for (int step = 0; step < script.size(); step++) {
                all += script.lengthOf(step);
            }
            return all;
        }

        int sizeOf(int what) {
            switch (what) {
                case 0:
                    return indents.size();
                case 1:
                    return longest();
                case 2:
                    return inked();
                case 3:
                    return indents.sum();
                case 4:
                    return lengths.sum() - indents.sum() - inked();
                case 5:
                    return beyond();
                case 6:
                    return 100 * beyond() + 10 * (indents.size() - 1) + indents.sum();
                case 7:
                    return ones.sum();
                default:
                    return lengths.last();
            }
        }

        /** Of a LEAST LAYOUT, as least() numbers it. */
        int leastOf(int what) {
            switch (what) {
                case 0:
                    return sizeOf(6);
                case 1:
                    return sizeOf(0);
                case 2:
                    return sizeOf(7);
                default:
                    return sizeOf(1);
            }
        }
    }

    /** Reads TYPED as a DOCUMENT. */
    private static final class DocumentReader {
        private static final String MARKS = "_,;~";
        private static final String OPENERS = "<{[";
        private static final String CLOSERS = ">}]";

        /** The kind of each bracket that is open, and how many items lie ahead of it. */
        private final Row owners = new Row(MOST_OPEN);
        private final Row itemStarts = new Row(MOST_OPEN);
        /** The places of the items that are in no node yet. */
        private final Row items = new Row(MOST_SIGNS + 1);

        private static int markOf(int sign) {
            int place = MARKS.indexOf((char) sign);
            return place < 0 ? NONE : LINE + place;
        }

        private static int openedBy(int sign) {
            int place = OPENERS.indexOf((char) sign);
            return place < 0 ? NONE : NEST + place;
        }

        private static int closedBy(int sign) {
            int place = CLOSERS.indexOf((char) sign);
            return place < 0 ? NONE : NEST + place;
        }

        int faultOf(Row signs) {
            owners.clear();
            for (int place = 0; place < signs.size(); place++) {
                int sign = signs.get(place);
                if (openedBy(sign) != NONE) {
                    if (owners.size() >= MOST_OPEN) {
                        return place;
                    }
                    owners.add(openedBy(sign));
                } else if (closedBy(sign) != NONE) {
                    if (owners.size() == 0 || owners.take() != closedBy(sign)) {
                        return place;
                    }
                } else if (!isLetter(sign) && markOf(sign) == NONE) {
                    return place;
                }
            }
            return owners.size() == 0 ? NONE : signs.size();
        }

        /** Makes the node of signs without a fault, and returns its place. */
        int build(Row signs, Nodes nodes) {
            itemStarts.clear();
            items.clear();
            int letters = 0;
            for (int place = 0; place < signs.size(); place++) {
                if (!isLetter(signs.get(place))) {
                    addOther(signs.get(place), nodes);
                    continue;
                }
                nodes.addSign(signs.get(place));
                letters++;
                if (!isLetter(signs.get(place + 1))) {
                    items.add(nodes.addText(letters));
                    letters = 0;
                }
            }
            return gathered(0, nodes);
        }

        private void addOther(int sign, Nodes nodes) {
            if (markOf(sign) != NONE) {
                items.add(nodes.addMark(markOf(sign)));
            } else if (openedBy(sign) != NONE) {
                itemStarts.add(items.size());
            } else {
                int kind = closedBy(sign);
                nodes.addPart(gathered(itemStarts.take(), nodes));
                items.add(nodes.addOver(kind, kind == NEST ? TYPED_BY : 0, 1));
            }
        }

        /** The one place of the DOCUMENT of all items from one on. */
        private int gathered(int first, Nodes nodes) {
            int count = items.size() - first;
            if (count == 0) {
                return nodes.addText(0);
            }
            if (count == 1) {
                return items.take();
            }
            for (int nth = first; nth < items.size(); nth++) {
                nodes.addPart(items.get(nth));
            }
            items.cut(first);
            return nodes.addOver(JOIN, 0, count);
        }
    }

    /** The TREE of CODE, and its PLAIN. */
    private static final class Tree {
        private final Row kinds = new Row(2 * MOST_SIGNS);
        /** Where the signs of a NAME (of a CALL, too) begin, and how many. */
        private final Row starts = new Row(2 * MOST_SIGNS);
        private final Row lengths = new Row(2 * MOST_SIGNS);
        private final Row firsts = new Row(2 * MOST_SIGNS);
        private final Row counts = new Row(2 * MOST_SIGNS);
        private final Row depths = new Row(2 * MOST_SIGNS);
        private final Row parts = new Row(2 * MOST_SIGNS);
        private final Row signs = new Row(MOST_SIGNS);
        private final Row inPlain = new Row(MOST_SIGNS);
        private int root = NONE;

        void start(Row ofSigns) {
            kinds.clear();
            starts.clear();
            lengths.clear();
            firsts.clear();
            counts.clear();
            depths.clear();
            parts.clear();
            signs.copy(ofSigns);
            inPlain.clear();
            root = NONE;
        }

        boolean isThere() {
            return root != NONE;
        }

        void setRoot(int place) {
            root = place;
        }

        /** A place over the items from one on. */
        int addPlace(int kind, int start, int length, Row items, int first) {
            kinds.add(kind);
            starts.add(start);
            lengths.add(length);
            firsts.add(parts.size());
            counts.add(items.size() - first);
            int depth = 0;
            for (int nth = first; nth < items.size(); nth++) {
                depth = Math.max(depth, depths.get(items.get(nth)));
                parts.add(items.get(nth));
            }
            depths.add(depth + 1);
            return kinds.size() - 1;
        }

        int countOf(int kind) {
            int all = 0;
            for (int place = 0; place < kinds.size(); place++) {
                all += kinds.get(place) == kind ? 1 : 0;
            }
            return all;
        }

        int depth() {
            return depths.get(root);
        }

        Row signsOfPlain() {
            return inPlain;
        }

        /** Writes PLAIN, and its DOCUMENT, whose TEXTS are pieces of PLAIN. */
        void unroll(Script script) {
            inPlain.clear();
            script.start(inPlain);
            if (root != NONE) {
                unrollPlace(script, root, 1);
            }
            script.finish();
        }

        /** Recursive: with 4 brackets open at most no TREE is deeper than 20. */
        private void unrollPlace(Script script, int place, int level) {
            if (level > MOST_DEPTH) {
                return;
            }
            int kind = kinds.get(place);
            if (kind == SUM || kind == PRODUCT) {
                unrollRow(script, place, level);
            } else if (kind == NAME || counts.get(place) == 0) {
                int start = inPlain.size();
                writeHead(place);
                writeTail(place);
                script.addStep(TEXT, start, inPlain.size() - start);
            } else {
                unrollArguments(script, place, level);
            }
        }

        private void unrollArguments(Script script, int place, int level) {
            int start = inPlain.size();
            writeHead(place);
            script.open(GROUP, 0);
            script.addStep(TEXT, start, inPlain.size() - start);
            script.open(NEST, TYPED_BY);
            script.addStep(CUT, 0, 0);
            for (int nth = 0; nth < counts.get(place); nth++) {
                if (nth > 0) {
                    addSign(script, ',');
                    script.addStep(LINE, 0, 0);
                }
                unrollPlace(script, parts.get(firsts.get(place) + nth), level + 1);
            }
            script.shut();
            script.addStep(CUT, 0, 0);
            script.addStep(TEXT, inPlain.size(), 1);
            writeTail(place);
            script.shut();
        }

        private void unrollRow(Script script, int place, int level) {
            boolean isSum = kinds.get(place) == SUM;
            if (isSum) {
                script.open(GROUP, 0);
                script.open(ALIGN, 0);
            }
            for (int nth = 0; nth < counts.get(place); nth++) {
                if (nth > 0 && isSum) {
                    script.addStep(LINE, 0, 0);
                }
                if (nth > 0) {
                    addSign(script, isSum ? '+' : '*');
                }
                unrollOne(script, place, nth, level);
            }
            if (isSum) {
                script.shut();
                script.shut();
            }
        }

        private void unrollOne(Script script, int place, int nth, int level) {
            int part = parts.get(firsts.get(place) + nth);
            int kind = kinds.get(part);
            boolean isBracketed = kind == SUM || kind == PRODUCT && kinds.get(place) == PRODUCT;
            if (isBracketed) {
                addSign(script, '(');
            }
            unrollPlace(script, part, level + 1);
            if (isBracketed) {
                addSign(script, ')');
            }
        }

        private void addSign(Script script, int sign) {
            script.addStep(TEXT, inPlain.size(), 1);
            inPlain.add(sign);
        }

        /** The NAME, and the bracket that opens, if there is one. */
        private void writeHead(int place) {
            for (int nth = 0; nth < lengths.get(place); nth++) {
                inPlain.add(signs.get(starts.get(place) + nth));
            }
            if (kinds.get(place) != NAME) {
                inPlain.add(kinds.get(place) == CALL ? '(' : '[');
            }
        }

        /** The bracket that closes, if there is one. */
        private void writeTail(int place) {
            if (kinds.get(place) != NAME) {
                inPlain.add(kinds.get(place) == CALL ? ')' : ']');
            }
        }
    }

    /** Reads signs as CODE, and makes a TREE of them on its way. */
    private static final class CodeReader {
        /** A FACTOR must follow. */
        private static final int OPERAND = 0;
        /** The first ARGUMENT must follow, or the bracket that closes. */
        private static final int FIRST = 1;
        /** In a NAME, which may go on. */
        private static final int NAMED = 2;
        /** Behind a bracket that closes. */
        private static final int CLOSED = 3;

        /** Of each bracket that is open: what it is of, its NAME, and where the items of it and of those around begin. */
        private final Row owners = new Row(MOST_OPEN);
        private final Row nameStarts = new Row(MOST_OPEN);
        private final Row nameLengths = new Row(MOST_OPEN);
        private final Row itemStarts = new Row(MOST_OPEN);
        private final Row sumStarts = new Row(MOST_OPEN);
        private final Row productStarts = new Row(MOST_OPEN);
        /** The places that are in no other one yet. */
        private final Row items = new Row(MOST_SIGNS);
        private int state = OPERAND;
        private int nameStart = 0;
        private int sumStart = 0;
        private int productStart = 0;

        /** Reads all signs into a tree; it is of use only if there is no fault. */
        int faultOf(Row signs, Tree tree) {
            tree.start(signs);
            begin();
            for (int place = 0; place < signs.size(); place++) {
                int sign = signs.get(place);
                if (!isTaken(sign)) {
                    return place;
                }
                if (state == NAMED && !isLetter(sign) && sign != '(') {
                    endName(place, tree);
                }
                if (sign == ')' || sign == ']') {
                    shut(tree);
                } else {
                    take(sign, place, tree);
                }
            }
            if (owners.size() > 0 || !isBehindFactor()) {
                return signs.size();
            }
            if (state == NAMED) {
                endName(signs.size(), tree);
            }
            gather(PRODUCT, productStart, tree);
            gather(SUM, sumStart, tree);
            tree.setRoot(items.last());
            return NONE;
        }

        private void begin() {
            owners.clear();
            nameStarts.clear();
            nameLengths.clear();
            itemStarts.clear();
            sumStarts.clear();
            productStarts.clear();
            items.clear();
            state = OPERAND;
            startSum();
        }

        private void startSum() {
            sumStart = items.size();
            productStart = items.size();
        }

        private boolean isBehindFactor() {
            return state == NAMED || state == CLOSED;
        }

        /** Whether some CODE goes on with this sign. */
        private boolean isTaken(int sign) {
            boolean isMoreOpen = owners.size() < MOST_OPEN;
            int owner = owners.size() == 0 ? NONE : owners.last();
            switch (sign) {
                case '+':
                case '*':
                    return isBehindFactor();
                case ',':
                    return isBehindFactor() && (owner == CALL || owner == LIST);
                case '(':
                    return state != CLOSED && isMoreOpen;
                case '[':
                    return !isBehindFactor() && isMoreOpen;
                case ')':
                    return state != OPERAND && (owner == CALL || owner == BRACKET);
                case ']':
                    return state != OPERAND && owner == LIST;
                default:
                    return isLetter(sign) && state != CLOSED;
            }
        }

        private void endName(int place, Tree tree) {
            items.add(tree.addPlace(NAME, nameStart, place - nameStart, items, items.size()));
            state = CLOSED;
        }

        private void take(int sign, int place, Tree tree) {
            switch (sign) {
                case '*':
                    state = OPERAND;
                    break;
                case '+':
                    gather(PRODUCT, productStart, tree);
                    productStart = items.size();
                    state = OPERAND;
                    break;
                case ',':
                    gather(PRODUCT, productStart, tree);
                    gather(SUM, sumStart, tree);
                    startSum();
                    state = OPERAND;
                    break;
                case '(':
                    open(state == NAMED ? CALL : BRACKET, place);
                    break;
                case '[':
                    open(LIST, place);
                    break;
                default:
                    nameStart = state == NAMED ? nameStart : place;
                    state = NAMED;
            }
        }

        private void open(int owner, int place) {
            owners.add(owner);
            nameStarts.add(nameStart);
            nameLengths.add(owner == CALL ? place - nameStart : 0);
            itemStarts.add(items.size());
            sumStarts.add(sumStart);
            productStarts.add(productStart);
            startSum();
            // A bracket of no NAME can't be closed at once, as a SUM must stand in it.
            state = owner == BRACKET ? OPERAND : FIRST;
        }

        private void shut(Tree tree) {
            gather(PRODUCT, productStart, tree);
            gather(SUM, sumStart, tree);
            int owner = owners.take();
            int start = nameStarts.take();
            int length = nameLengths.take();
            int first = itemStarts.take();
            sumStart = sumStarts.take();
            productStart = productStarts.take();
            state = CLOSED;
            if (owner != BRACKET) {
                int place = tree.addPlace(owner, start, length, items, first);
                items.cut(first);
                items.add(place);
            }
        }

        /** Makes one place of the items from one on, if they are two or more. */
        private void gather(int kind, int first, Tree tree) {
            if (items.size() - first > 1) {
                int place = tree.addPlace(kind, 0, 0, items, first);
                items.cut(first);
                items.add(place);
            }
        }
    }

    /** Tries what must hold of the layouts, and of the code that is kept. */
    private static final class Sound {
        private final Nodes nodes;
        private final CodeReader coder;
        private final Layout bench;
        private final Layout other;
        private final Row gathered = new Row(MOST_COLUMNS);

        Sound(Nodes nodes, CodeReader coder, Layout bench, Layout other) {
            this.nodes = nodes;
            this.coder = coder;
            this.bench = bench;
            this.other = other;
        }

        boolean holds(Tree kept, Tree spare, int width, int ribbon) {
            boolean isWell = true;
            for (int node = Math.max(0, nodes.count() - 2); node < nodes.count() && isWell; node++) {
                isWell = isLayoutSound(node, width, ribbon) && isWrappingSound(node, width, ribbon)
                    && isLeastSound(node, width, ribbon);
            }
            if (!kept.isThere()) {
                return isWell;
            }
            return isWell && isReadAgain(kept, spare, width, ribbon) && isReadAgain(kept, spare, 1, ribbon)
                && isReadAgain(kept, spare, MOST_WIDTH, ribbon);
        }

        private boolean isLayoutSound(int node, int width, int ribbon) {
            nodes.unrollOn(bench.script(), node);
            nodes.unrollOn(other.script(), node);
            bench.lay(width, ribbon, FIT, NO_LIMIT);
            other.lay(width, ribbon, TRY, NO_LIMIT);
            bench.gather(gathered);
            return bench.script().hasTexts(gathered) && bench.firstDifference(other) == NONE;
        }

        private boolean isWrappingSound(int node, int width, int ribbon) {
            nodes.unrollIn(bench.script(), node, GROUP, 0, 0);
            nodes.unrollIn(other.script(), node, GROUP, 0, NONE);
            if (isDifferent(width, ribbon)) {
                return false;
            }
            nodes.unrollIn(bench.script(), node, NEST, 1, 2);
            nodes.unrollIn(other.script(), node, NEST, 3, NONE);
            return !isDifferent(width, ribbon);
        }

        private boolean isDifferent(int width, int ribbon) {
            bench.lay(width, ribbon, FIT, NO_LIMIT);
            other.lay(width, ribbon, FIT, NO_LIMIT);
            return bench.firstDifference(other) != NONE;
        }

        private boolean isLeastSound(int node, int width, int ribbon) {
            if (nodes.weightOf(node) > MOST_LEAST_WEIGHT) {
                return true;
            }
            nodes.unrollOn(bench.script(), node);
            int least = bench.layLeast(width);
            int ofLeast = bench.sizeOf(6);
            bench.lay(width, ribbon, FIT, NO_LIMIT);
            int ofFit = bench.sizeOf(6);
            bench.lay(width, ribbon, BREAK, NO_LIMIT);
            return least == ofLeast && least <= ofFit && least <= bench.sizeOf(6);
        }

        private boolean isReadAgain(Tree kept, Tree spare, int width, int ribbon) {
            kept.unroll(bench.script());
            bench.lay(width, ribbon, FIT, NO_LIMIT);
            bench.gather(gathered);
            if (coder.faultOf(gathered, spare) != NONE) {
                return false;
            }
            spare.unroll(other.script());
            return spare.signsOfPlain().isSame(kept.signsOfPlain());
        }
    }
}
