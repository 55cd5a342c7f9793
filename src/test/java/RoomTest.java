/** Promises 10 to 16: the room, what is typed, and the two counters. */
public final class RoomTest {
    private static final Class<?> ARGUMENT = IllegalArgumentException.class;
    private static final Class<?> STATE = IllegalStateException.class;

    public static void main(String[] args) {
        widths();
        ribbons();
        says();
        saysOfTooMuch();
        reads();
        readsThatFail();
        readsStay();
        codes();
        counters();
        Checks.end();
    }

    private static void widths() {
        Nestprint x = new Nestprint();
        Checks.due("width(1)", x.width(1), 20);
        Checks.due("width(60)", x.width(60), 1);
        Checks.due("house(1)", x.house(1), 60);
        Checks.refused("width(0)", x, ARGUMENT, () -> x.width(0));
        Checks.refused("width(61)", x, ARGUMENT, () -> x.width(61));
        Checks.refused("width(-5)", x, ARGUMENT, () -> x.width(-5));
        Checks.due("width(7)", x.width(7), 60);
    }

    private static void ribbons() {
        Nestprint x = new Nestprint();
        Checks.due("ribbon(1)", x.ribbon(1), 60);
        Checks.due("ribbon(60)", x.ribbon(60), 1);
        Checks.due("house(2)", x.house(2), 60);
        Checks.refused("ribbon(0)", x, ARGUMENT, () -> x.ribbon(0));
        Checks.refused("ribbon(61)", x, ARGUMENT, () -> x.ribbon(61));
        Checks.due("ribbon(9)", x.ribbon(9), 60);
        Checks.due("house(1) stays", x.house(1), 20);
    }

    private static void says() {
        Nestprint x = new Nestprint();
        Checks.due("nothing said", x.say(-1, -1, -1, -1, -1, -1), 0);
        Checks.due("20 of nothing", x.say(20, 20, -1, -1, -1, -1), 0);
        Checks.due("six signs", x.say(0, 1, 2, 3, 4, 5), 6);
        Checks.due("six more", x.say(6, 7, 8, 9, 10, 11), 12);
        Checks.due("six more yet", x.say(12, 13, 14, 15, 16, 17), 18);
        Checks.due("the last two", x.say(-1, 18, -1, -1, 19, -1), 20);
        Checks.due("typed()", x.typed(), "abcdef_,;~[]{}<>()+*");
        Checks.due("house(3)", x.house(3), 20);
        Checks.due("one taken off", x.say(20, -1, -1, -1, -1, -1), 19);
        Checks.due("typed and taken in their order", x.say(0, 20, 20, 1, 2, 20), 19);
        Checks.due("typed() then", x.typed(), "abcdef_,;~[]{}<>()b");
        Checks.due("all taken off, then some typed", x.say(3, 21, 4, 5, -1, -1), 2);
        Checks.due("typed() then", x.typed(), "ef");
        Checks.refused("say -2 first", x, ARGUMENT, () -> x.say(-2, 0, 0, 0, 0, 0));
        Checks.refused("say 22 last", x, ARGUMENT, () -> x.say(0, 0, 0, 0, 0, 22));
        for (int place = 0; place < 6; place++) {
            int[] c = {0, 1, 21, 3, 20, -1};
            c[place] = 22;
            Checks.refused("say 22 at " + place, x, ARGUMENT, () -> x.say(c[0], c[1], c[2], c[3], c[4], c[5]));
        }
    }

    private static void saysOfTooMuch() {
        Nestprint x = Checks.withSigns(60);
        Checks.due("60 signs", x.house(3), 60);
        Checks.refused("a 61st", x, STATE, () -> x.say(0, -1, -1, -1, -1, -1));
        Checks.refused("a 61st, and off again", x, STATE, () -> x.say(0, 20, -1, -1, -1, -1));
        Checks.refused("a 61st, and all off", x, STATE, () -> x.say(-1, 0, 21, -1, -1, -1));
        Checks.refused("a 61st, and a wrong code", x, ARGUMENT, () -> x.say(0, -1, -1, -1, -1, 22));
        Checks.due("one off and one more", x.say(20, 0, -1, -1, -1, -1), 60);
        Nestprint y = Checks.withSigns(57);
        Checks.refused("six more than 57", y, STATE, () -> y.say(0, 0, 0, 0, 0, 0));
        Checks.refused("61 signs, one off again", y, STATE, () -> y.say(0, 0, 0, 0, 20, -1));
        Checks.due("three more", y.say(0, 0, 0, -1, -1, -1), 60);
    }

    private static void readsTo(String typed, int kind, int weight, int depth, String flat) {
        Nestprint x = new Nestprint();
        Checks.due("read() of " + typed, Checks.read(x, typed), 0);
        Checks.due("KIND of " + typed, x.ofNode(0, 0), kind);
        Checks.due("WEIGHT of " + typed, x.ofNode(0, 1), weight);
        Checks.due("DEPTH of " + typed, x.ofNode(0, 2), depth);
        Checks.due("FLAT of " + typed, x.flat(0), flat);
        Checks.due("NODES of " + typed, x.house(6), 1);
        Checks.due("typed() stays", x.typed(), typed);
    }

    private static void reads() {
        readsTo("", 0, 1, 1, "");
        readsTo("a", 0, 1, 1, "a");
        readsTo("abcdef", 0, 1, 1, "abcdef");
        readsTo("_", 1, 1, 1, " ");
        readsTo(",", 2, 1, 1, "");
        readsTo(";", 3, 1, 1, "!");
        readsTo("~", 4, 1, 1, " ");
        readsTo("ab_cd", 5, 3, 2, "ab cd");
        readsTo("a,b~c", 5, 5, 2, "ab c");
        readsTo("[]", 8, 1, 2, "");
        readsTo("{a}", 7, 1, 2, "a");
        readsTo("<a>", 6, 1, 2, "a");
        readsTo("[a_b]", 8, 3, 3, "a b");
        readsTo("[a]b", 5, 2, 3, "ab");
        readsTo("a[b_{c,<d>}]e", 5, 7, 7, "ab cde");
        readsTo("[[[[]]]]", 8, 1, 5, "");
        readsTo("[a{b<c[d_e]f>a}b]", 8, 9, 9, "abcd efab");
        readsTo("a[][]", 5, 3, 3, "a");
        Nestprint x = new Nestprint();
        Checks.due("read of <a_b>", Checks.read(x, "<a_b>"), 0);
        Checks.due("by 2", x.ofNode(0, 7), 2);
        Checks.due("a long one", Checks.read(x, "a_".repeat(30)), 1);
        Checks.due("WEIGHT of a long one", x.ofNode(1, 1), 60);
        Checks.due("one TEXT of 60", Checks.read(x, "abcdef".repeat(10)), 2);
        Checks.due("WEIGHT of one TEXT", x.ofNode(2, 1), 1);
        Checks.due("length of its FLAT", x.ofNode(2, 4), 60);
    }

    private static void readsThatFail() {
        Nestprint x = new Nestprint();
        for (String typed : new String[] {"[", "a]", "[a}", "a+b", "(a)", "[[[[[", "a*", "{<}>"}) {
            Checks.due("read() of " + typed, Checks.read(x, typed), -1);
        }
        Checks.due("no NODES of that", x.house(0), 0);
        Checks.due("none ever", x.house(6), 0);
        Nestprint full = Checks.withWords(80);
        Checks.type(full, "a]");
        Checks.refused("80 nodes: read() with a FAULT", full, STATE, () -> full.read());
    }

    private static void readsStay() {
        Nestprint x = new Nestprint();
        int first = Checks.read(x, "[ab_cd]");
        int second = Checks.read(x, "<e,f>a");
        x.word(25, 1);
        int both = x.join(first, second);
        Checks.due("a read one in a join", x.flat(both), "ab cdefa");
        x.width(3);
        Checks.due("its lines", Checks.lines(x, both), "ab|cde|  fa");
        Nestprint many = new Nestprint();
        Checks.type(many, "[a]".repeat(20));
        for (int node = 0; node < 80; node++) {
            many.read();
        }
        Checks.due("80 read ones", many.house(0), 80);
        Checks.due("their WEIGHTS", many.house(7), 1600);
        Checks.due("FLAT of the last one", many.flat(79), "a".repeat(20));
    }

    private static void codes() {
        Nestprint x = new Nestprint();
        Checks.due("code() of nothing", x.code(), -1);
        Checks.due("code() of a name", Checks.code(x, "abc"), 1);
        Checks.due("code() of a call", Checks.code(x, "a(b,c)"), 3);
        Checks.due("code() of a list", Checks.code(x, "[]"), 0);
        Checks.due("plain() of a list", x.plain(), "[]");
        Checks.due("code() of much", Checks.code(x, "a+b*(c+d)+f([e])"), 6);
        Checks.due("typed() stays", x.typed(), "a+b*(c+d)+f([e])");
        Checks.due("code() with a FAULT", Checks.code(x, "a+"), -1);
        Checks.due("the CODE that was kept stays", x.plain(), "a+b*(c+d)+f([e])");
        x.say(21, -1, -1, -1, -1, -1);
        Checks.due("it stays when all is taken off", x.plain(), "a+b*(c+d)+f([e])");
        Checks.due("code() of what is no CODE", Checks.code(x, "[a_b]"), -1);
        x.fault(true);
        Checks.due("it stays when others are read", x.plain(), "a+b*(c+d)+f([e])");
    }

    private static void counters() {
        Nestprint x = new Nestprint();
        Checks.due("blank()", x.blank(), -9);
        Checks.due("blank()", x.blank(), -9);
        Checks.due("house(4)", x.house(4), 2);
        Checks.due("knock()", x.knock(), 1);
        Checks.due("knock()", x.knock(), 2);
        Checks.due("knock()", x.knock(), 3);
        Checks.due("house(5)", x.house(5), 3);
        x.forget();
        Checks.due("knock() ever", x.knock(), 4);
        Checks.due("house(4) ever", x.house(4), 2);
    }
}
