/** Promises 25 to 29: what is asked of what is typed, and of the code that is kept. */
public final class TypedTest {
    private static final Class<?> ARGUMENT = IllegalArgumentException.class;

    public static void main(String[] args) {
        typedTexts();
        faultsOfDocuments();
        faultsOfCode();
        withoutCode();
        facts();
        plains();
        layouts();
        oneBehindTheOther();
        deepOnes();
        Checks.end();
    }

    private static void typedTexts() {
        Nestprint x = new Nestprint();
        Checks.due("typed() at first", x.typed(), "");
        Checks.type(x, "a_b[c]{d}<e>(f)+*;,~");
        Checks.due("typed()", x.typed(), "a_b[c]{d}<e>(f)+*;,~");
    }

    private static void fault(String typed, boolean isCode, int due) {
        Nestprint x = new Nestprint();
        Checks.type(x, typed);
        Checks.due("fault(" + isCode + ") of " + typed, x.fault(isCode), due);
        Checks.due("typed() stays", x.typed(), typed);
    }

    private static void faultsOfDocuments() {
        String[] fine = {"", "a", "_,;~", "[]", "{}", "<>", "[{<[a]>}]", "abc[d]e_f", "[[[[a]]]][{<{}>}]"};
        for (String typed : fine) {
            fault(typed, false, -1);
        }
        fault("[", false, 1);
        fault("ab[c{d", false, 6);
        fault("]", false, 0);
        fault("ab]", false, 2);
        fault("[a}", false, 2);
        fault("{a>]", false, 2);
        fault("<[a>]", false, 3);
        fault("a+b", false, 1);
        fault("a*b", false, 1);
        fault("f(a)", false, 1);
        fault("a)", false, 1);
        fault("[[[[[", false, 4);
        fault("[[{<[a]>}]]", false, 4);
        fault("[[{<", false, 4);
        fault("[a]]", false, 3);
        fault("[](", false, 2);
    }

    private static void faultsOfCode() {
        String[] fine = {"a", "abc", "a()", "[]", "(a)", "((((a))))", "a+b*c", "a(b,c+d,[e])", "[a,[b],c()]", "a*(b+c)*d",
            "a([b((c))])", "(a*b)*c", "a()+[]", "[(a),(b)]"};
        for (String typed : fine) {
            fault(typed, true, -1);
        }
        fault("", true, 0);
        fault("+", true, 0);
        fault("a+", true, 2);
        fault("a++b", true, 2);
        fault("a*+b", true, 2);
        fault("a+*b", true, 2);
        fault("(", true, 1);
        fault("()", true, 1);
        fault("a(", true, 2);
        fault("a(,b)", true, 2);
        fault("a(b,)", true, 4);
        fault("[a,]", true, 3);
        fault("[,a]", true, 1);
        fault("a,b", true, 1);
        fault("(a,b)", true, 2);
        fault("[(a,b)]", true, 3);
        fault("a]", true, 1);
        fault("a)", true, 1);
        fault("[a)", true, 2);
        fault("a(b]", true, 3);
        fault("(a]", true, 2);
        fault("a[b]", true, 1);
        fault("a()b", true, 3);
        fault("a()()", true, 3);
        fault("[][]", true, 2);
        fault("(a)b", true, 3);
        fault("(a)(b)", true, 3);
        fault("[a](b)", true, 3);
        fault("(((((a", true, 4);
        fault("a(b(c(d(e(f", true, 9);
        fault("[[[[[", true, 4);
        fault("a([([", true, 5);
        fault("a([([b((", true, 6);
        fault("a_b", true, 1);
        fault("{a}", true, 0);
        fault("a~", true, 1);
        fault("a;", true, 1);
        fault("a<", true, 1);
        fault("a(b", true, 3);
        fault("a+b*", true, 4);
    }

    private static void withoutCode() {
        Nestprint x = new Nestprint();
        for (int what = 0; what <= 9; what++) {
            Checks.due("ofCode(" + what + ") without", x.ofCode(what), 0);
        }
        Checks.due("plain() without", x.plain(), "");
        Checks.due("codeLine(0) without", x.codeLine(0), "!");
        Checks.refused("ofCode(-1) without", x, ARGUMENT, () -> x.ofCode(-1));
        Checks.refused("ofCode(10) without", x, ARGUMENT, () -> x.ofCode(10));
        Checks.refused("codeLine(-1) without", x, ARGUMENT, () -> x.codeLine(-1));
        Checks.type(x, "a");
        Checks.due("ofCode(0) of what is only typed", x.ofCode(0), 0);
        x.code();
        Checks.refused("ofCode(-1)", x, ARGUMENT, () -> x.ofCode(-1));
        Checks.refused("ofCode(10)", x, ARGUMENT, () -> x.ofCode(10));
        Checks.refused("codeLine(-1)", x, ARGUMENT, () -> x.codeLine(-1));
        Checks.due("codeLine(1)", x.codeLine(1), "!");
        Checks.due("codeLine(most int)", x.codeLine(Integer.MAX_VALUE), "!");
    }

    private static void factsOf(String typed, int... due) {
        Nestprint x = new Nestprint();
        Checks.code(x, typed);
        for (int what = 0; what < due.length; what++) {
            Checks.due("ofCode(" + what + ") of " + typed, x.ofCode(what), due[what]);
        }
    }

    private static void facts() {
        factsOf("a", 1, 1, 0, 0, 0, 0, 1, 1, 1, 1);
        factsOf("ab()", 1, 1, 1, 0, 0, 0, 1, 4, 1, 1);
        factsOf("[]", 1, 0, 0, 1, 0, 0, 1, 2, 1, 1);
        factsOf("((a))", 1, 1, 0, 0, 0, 0, 1, 1, 1, 1);
        factsOf("a+b", 1, 2, 0, 0, 1, 0, 2, 3, 4, 1);
        factsOf("a*b", 1, 2, 0, 0, 0, 1, 2, 3, 3, 1);
        factsOf("a(b)", 1, 2, 1, 0, 0, 0, 2, 4, 5, 1);
        factsOf("a(b,c)", 1, 3, 1, 0, 0, 0, 2, 6, 8, 1);
        factsOf("[a,b]", 1, 2, 0, 1, 0, 0, 2, 5, 8, 1);
        factsOf("a+b*(c+d)+f([e])", 1, 6, 1, 1, 2, 1, 4, 16, 22, 1);
        factsOf("(a*b)*c", 1, 3, 0, 0, 0, 2, 3, 7, 7, 1);
        factsOf("(a*b)+c", 1, 3, 0, 0, 1, 1, 3, 5, 6, 1);
        factsOf("(a+b)+c", 1, 3, 0, 0, 2, 0, 3, 7, 9, 1);
        factsOf("abcdef(abcdef,abcdef,abcdef)", 1, 4, 1, 0, 0, 0, 2, 28, 11, 5);
    }

    private static void plain(String typed, String due) {
        Nestprint x = new Nestprint();
        Checks.code(x, typed);
        Checks.due("plain() of " + typed, x.plain(), due);
        Checks.due("its length", x.ofCode(7), due.length());
        Checks.due("it is the same again", Checks.code(x, due), x.ofCode(1));
        Checks.due("plain() of " + due, x.plain(), due);
    }

    private static void plains() {
        plain("a", "a");
        plain("((a))", "a");
        plain("(a+b)", "a+b");
        plain("(a+b)+c", "(a+b)+c");
        plain("a+(b+c)", "a+(b+c)");
        plain("((a+b))+c", "(a+b)+c");
        plain("(a*b)+c", "a*b+c");
        plain("(a*b)*c", "(a*b)*c");
        plain("a*(b*c)", "a*(b*c)");
        plain("(a+b)*c", "(a+b)*c");
        plain("a*((b+c))*(d)", "a*(b+c)*d");
        plain("a((b))", "a(b)");
        plain("a((b+c),(d*e))", "a(b+c,d*e)");
        plain("[(a),((b+c))]", "[a,b+c]");
        plain("(a())+([])", "a()+[]");
        plain("a([b,c()],[[]])*d+e", "a([b,c()],[[]])*d+e");
        plain("abc(d)+(a+b*(c+d))*f", "abc(d)+(a+b*(c+d))*f");
    }

    private static void laid(String typed, int width, String due) {
        Nestprint x = new Nestprint();
        x.width(width);
        Checks.code(x, typed);
        Checks.due(typed + " in " + width, Checks.codeLines(x), due);
        Checks.due("lines of " + typed, x.ofCode(9), due.split("\\|", -1).length);
        Checks.due("isSound() with " + typed, x.isSound(), true);
    }

    private static void layouts() {
        laid("a(b,c)", 20, "a(b, c)");
        laid("a(b,c)", 7, "a(b, c)");
        laid("a(b,c)", 6, "a(|  b,|  c|)");
        laid("a(b)", 4, "a(b)");
        laid("a(b)", 3, "a(|  b|)");
        laid("[a,b]", 4, "[|  a,|  b|]");
        laid("abc()", 1, "abc()");
        laid("[]", 1, "[]");
        laid("a+b+c", 20, "a +b +c");
        laid("a+b+c", 6, "a|+b|+c");
        laid("a*b*c", 1, "a*b*c");
        laid("ab*(c+d)", 20, "ab*(c +d)");
        laid("ab*(c+d)", 8, "ab*(c|    +d)");
        laid("ab*(c+d)", 9, "ab*(c +d)");
        laid("a(b+c,d)", 9, "a(|  b +c,|  d|)");
        laid("a(b+c,d)", 1, "a(|  b|  +c,|  d|)");
        laid("a([b,c],d)", 10, "a(|  [b, c],|  d|)");
        laid("a([b,c],d)", 8, "a(|  [|    b,|    c|  ],|  d|)");
        Nestprint x = new Nestprint();
        x.ribbon(4);
        Checks.code(x, "a(b,c+d)");
        Checks.due("code in a RIBBON of 4", Checks.codeLines(x), "a(|  b,|  c +d|)");
        x.ribbon(3);
        Checks.due("code in a RIBBON of 3", Checks.codeLines(x), "a(|  b,|  c|  +d|)");
        x.width(60);
        x.ribbon(60);
        Checks.due("code in WIDTH 60", x.codeLine(0), "a(b, c +d)");
        x.word(0, 1);
        x.forget();
        Checks.due("code when nodes are forgotten", x.codeLine(0), "a(b, c +d)");
    }

    private static void typedAgain(Nestprint x, String typed, boolean isCode, int due) {
        Checks.type(x, typed);
        Checks.due("fault(" + isCode + ") of " + typed, x.fault(isCode), due);
    }

    /** What one call has read is nothing to the next one. */
    private static void oneBehindTheOther() {
        Nestprint x = new Nestprint();
        for (int round = 0; round < 2; round++) {
            typedAgain(x, "a([(", true, 4);
            typedAgain(x, "a)", true, 1);
            typedAgain(x, "[[{<", false, 4);
            typedAgain(x, "a]", false, 1);
            Checks.due("code() of a deep one", Checks.code(x, "a(b*(c+d(e)))"), 5);
            Checks.due("its depth", x.ofCode(6), 5);
            typedAgain(x, "a+b*c(d,e+[f", true, 12);
            Checks.due("code() of a flat one", Checks.code(x, "a*b"), 2);
            Checks.due("its depth", x.ofCode(6), 2);
            Checks.due("its plain()", x.plain(), "a*b");
            Checks.due("its SUMS", x.ofCode(4), 0);
            Checks.due("code() of a name", Checks.code(x, "f"), 1);
            Checks.due("its depth", x.ofCode(6), 1);
        }
    }

    private static void deepOnes() {
        String call = "a*b([c+d*(e+f*[b+c*d])])+e";
        plain(call, call);
        String deep = "a+b*[a+b*[a+b*[a+b*[a+b*c]]]]";
        Nestprint x = new Nestprint();
        Checks.due("code() of a deep one", Checks.code(x, deep), 11);
        Checks.due("its depth", x.ofCode(6), 15);
        Checks.due("its plain()", x.plain(), deep);
        x.width(60);
        Checks.due("its line", x.codeLine(0), "a +b*[a +b*[a +b*[a +b*[a +b*c]]]]");
        Checks.due("isSound() with it", x.isSound(), true);
    }
}
