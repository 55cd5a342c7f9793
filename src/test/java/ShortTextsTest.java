import java.util.List;

/** Sections 2 to 4, and promises 13, 14, 26: every short text (of letters "a" alone) is typed, read, laid out, and compared with Model. */
public final class ShortTextsTest {
    private static final String OF_DOCUMENTS = "a_,;~[]{}<>+";
    private static final String OF_CODE = "a()[]+*,_";
    private static final int LONGEST_DOCUMENT = 4;
    private static final int LONGEST_CODE = 7;
    private static final int[] WIDTHS = {1, 2, 4};
    private static int documents = 0;
    private static int codes = 0;

    public static void main(String[] args) {
        tryAll("", false);
        tryAll("", true);
        Checks.due("documents among the texts", documents, 1297);
        Checks.due("code among the texts", codes, 604);
        Checks.end();
    }

    /** Of a text with a fault one more sign is tried, but no more. */
    private static void tryAll(String text, boolean isCode) {
        int fault = Model.faultOf(text, isCode);
        if (isCode) {
            tryCode(text, fault);
        } else {
            tryDocument(text, fault);
        }
        if (text.length() == (isCode ? LONGEST_CODE : LONGEST_DOCUMENT) || fault != -1 && fault < text.length()) {
            return;
        }
        for (char sign : (isCode ? OF_CODE : OF_DOCUMENTS).toCharArray()) {
            tryAll(text + sign, isCode);
        }
    }

    private static void tryDocument(String text, int fault) {
        Nestprint x = new Nestprint();
        Checks.type(x, text);
        Checks.due(text + " fault(false)", x.fault(false), fault);
        Checks.due(text + " read()", x.read(), fault == -1 ? 0 : -1);
        if (fault != -1) {
            return;
        }
        documents++;
        Model.Node node = Model.documentOf(text);
        Checks.due(text + " ofNode(0, 0)", x.ofNode(0, 0), node.kind);
        Checks.due(text + " ofNode(0, 2)", x.ofNode(0, 2), node.depth());
        for (int width : WIDTHS) {
            x.width(width);
            x.ribbon(width);
            Model.Layout layout = new Model.Layout(node, width, width, null);
            Checks.due(text + " in " + width, Checks.lines(x, 0), barred(layout.lines));
            Checks.due(text + " flat ones in " + width, x.measure(0, 7), layout.flatOnes());
            Model.Layout least = Model.least(node, width);
            Checks.due(text + " least in " + width, x.least(0, 0), least.cost());
            Checks.due(text + " least flat ones in " + width, x.least(0, 2), least.flatOnes());
            Checks.due(text + " least lines in " + width, Checks.leastLines(x, 0), barred(least.lines));
            Checks.due(text + " isSound() in " + width, x.isSound(), true);
        }
    }

    private static void tryCode(String text, int fault) {
        Nestprint x = new Nestprint();
        Checks.type(x, text);
        Checks.due(text + " fault(true)", x.fault(true), fault);
        if (fault != -1) {
            Checks.due(text + " code()", x.code(), -1);
            return;
        }
        codes++;
        Model.Tree tree = Model.codeOf(text);
        Checks.due(text + " code()", x.code(), tree.count('n') + tree.count('c'));
        Checks.due(text + " plain()", x.plain(), tree.plain());
        Checks.due(text + " ofCode(6)", x.ofCode(6), tree.depth());
        Checks.due(text + " ofCode(8)", x.ofCode(8), tree.document().leaves().size());
        for (int width : WIDTHS) {
            x.width(width);
            x.ribbon(width);
            Model.Layout layout = new Model.Layout(tree.document(), width, width, null);
            Checks.due(text + " as code in " + width, Checks.codeLines(x), barred(layout.lines));
            Checks.due(text + " as code, isSound() in " + width, x.isSound(), true);
        }
    }

    private static String barred(List<String> lines) {
        return String.join("|", lines);
    }
}
