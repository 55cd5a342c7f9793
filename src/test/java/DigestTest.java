import java.math.BigInteger;
import java.util.ArrayList;
import java.util.List;

/** Promise 37, digest(): which numbers go into it, how many NODES, which last one, and where it wraps around. */
public final class DigestTest {
    private static final BigInteger MOST = BigInteger.valueOf(Long.MAX_VALUE);

    public static void main(String[] args) {
        wrapsAround();
        ofNewOnes();
        howManyNodes();
        whichWeight();
        typedAndCode();
        ofLayouts();
        eachNumberCounts();
        emptyLines();
        soundOnes();
        Checks.end();
    }

    /** All numbers that go into it, as the other calls answer them. */
    private static List<Long> numbersOf(Nestprint x) {
        List<Long> all = new ArrayList<>();
        for (int what = 0; what <= 7; what++) {
            all.add((long) x.house(what));
        }
        int last = x.house(0) - 1;
        for (int node = last; node >= Math.max(0, last - 3); node--) {
            for (int what = 0; what <= 7; what++) {
                all.add((long) x.ofNode(node, what));
            }
            for (int what = 0; what <= 8; what++) {
                all.add((long) x.measure(node, what));
            }
            for (int nth = 0; nth < x.measure(node, 0); nth++) {
                all.add((long) x.line(node, nth).length());
            }
        }
        if (last >= 0 && x.ofNode(last, 1) <= 12) {
            for (int what = 0; what <= 3; what++) {
                all.add((long) x.least(last, what));
            }
        }
        all.add((long) x.typed().length());
        all.add((long) x.fault(false));
        all.add((long) x.fault(true));
        for (int what = 0; what <= 9; what++) {
            all.add((long) x.ofCode(what));
        }
        for (int nth = 0; nth < x.ofCode(9); nth++) {
            all.add((long) x.codeLine(nth).length());
        }
        all.add(x.isSound() ? 1L : 0L);
        return all;
    }

    /** Without any wrapping around. */
    private static BigInteger whole(List<Long> numbers) {
        BigInteger sum = BigInteger.valueOf(8287);
        for (long number : numbers) {
            sum = sum.multiply(BigInteger.valueOf(31)).add(BigInteger.valueOf(number));
        }
        return sum;
    }

    private static void due(String call, Nestprint x) {
        Checks.due("digest() " + call, x.digest(), whole(numbersOf(x)).longValue());
    }

    /** 22 numbers at least go into it, so that it always wraps around; some answers are below 0 then. */
    private static void wrapsAround() {
        Nestprint x = new Nestprint();
        Checks.due("more than 64 bits", whole(numbersOf(x)).compareTo(MOST) > 0, true);
        due("of a new one", x);
        int below = 0;
        int above = 0;
        for (int knock = 0; knock < 8; knock++) {
            x.knock();
            due("when knocked", x);
            below += x.digest() < 0 ? 1 : 0;
            above += x.digest() > 0 ? 1 : 0;
        }
        Checks.due("some below 0", below > 0, true);
        Checks.due("some above 0", above > 0, true);
    }

    /** Written out: house(), no TYPED, no FAULT, FAULT 0 as CODE, no CODE, sound. */
    private static void ofNewOnes() {
        BigInteger sum = BigInteger.valueOf(8287);
        int[] all = {0, 20, 60, 0, 0, 0, 0, 0, 0, -1, 0, 0, 0, 0, 0, 0, 0, 0, 0, 0, 0, 1};
        for (int number : all) {
            sum = sum.multiply(BigInteger.valueOf(31)).add(BigInteger.valueOf(number));
        }
        Checks.due("digest() of a new one, written out", new Nestprint().digest(), sum.longValue());
        Nestprint x = new Nestprint();
        x.word(0, 2);
        sum = BigInteger.valueOf(8287);
        int[] ofWord = {1, 20, 60, 0, 0, 0, 1, 1, 0, 1, 1, 0, 2, 1, 0, 0, 1, 2, 2, 0, 0, 0, 0, 0, 2, 2, 0, 1, 0, 2,
            0, -1, 0, 0, 0, 0, 0, 0, 0, 0, 0, 0, 0, 1};
        for (int number : ofWord) {
            sum = sum.multiply(BigInteger.valueOf(31)).add(BigInteger.valueOf(number));
        }
        Checks.due("digest() of a word, written out", x.digest(), sum.longValue());
    }

    /** The last 4, the last one first; what is ahead of them is no matter, but for what house() counts. */
    private static void howManyNodes() {
        for (int count = 1; count <= 6; count++) {
            Nestprint x = new Nestprint();
            for (int node = 0; node < count; node++) {
                x.word(node, node + 1);
            }
            due("of " + count + " NODES", x);
        }
        Nestprint longer = wordsBehind(9, 5);
        Nestprint shorter = wordsBehind(2, 5);
        Checks.due("the fifth last one is no matter", longer.digest(), shorter.digest());
        longer = wordsBehind(9, 4);
        shorter = wordsBehind(2, 4);
        Checks.due("the fifth last one, of five, is no matter", longer.digest(), shorter.digest());
        longer = wordsBehind(9, 3);
        shorter = wordsBehind(2, 3);
        Checks.due("the fourth last one is", longer.digest() == shorter.digest(), false);
        Nestprint full = Checks.withWords(80);
        due("of 80 NODES", full);
        full.forget();
        due("of 80 forgotten ones", full);
    }

    private static Nestprint wordsBehind(int length, int count) {
        Nestprint x = new Nestprint();
        x.word(0, length);
        for (int node = 0; node < count; node++) {
            x.word(1, 3);
        }
        return x;
    }

    /** least() of the last one goes in with a WEIGHT of 12, but not of 13; the others' WEIGHT is no matter. */
    private static void whichWeight() {
        for (int weight : new int[] {1, 11, 12, 13, 60}) {
            Nestprint x = new Nestprint();
            Checks.read(x, "_".repeat(weight));
            due("of WEIGHT " + weight, x);
            x.word(0, 1);
            due("of a word behind WEIGHT " + weight, x);
        }
        Nestprint x = new Nestprint();
        x.width(6);
        Checks.due("WEIGHT of 12", x.ofNode(Checks.read(x, "a[b_c]{dd_eeee}[a_b]c~"), 1), 12);
        due("of WEIGHT 12 in 6", x);
        Checks.due("WEIGHT of 13", x.ofNode(Checks.read(x, "a[b_c]{dd_eeee}[a_b]c~a"), 1), 13);
        due("of WEIGHT 13 in 6", x);
    }

    private static void typedAndCode() {
        String[] all = {"a", "a]", "[a_b]", "a+", "a(b,c)", "[", "(((((", "[[[[", "a".repeat(60), ""};
        for (String typed : all) {
            Nestprint x = new Nestprint();
            Checks.code(x, "a+b");
            Checks.type(x, typed);
            due("with " + typed, x);
            x.code();
            due("behind code() of " + typed, x);
        }
        Nestprint y = new Nestprint();
        Checks.code(y, "a(b+c,[d])*(e+f)");
        for (int width : new int[] {1, 7, 12, 60}) {
            y.width(width);
            due("of CODE in " + width, y);
        }
    }

    private static void ofLayouts() {
        String[] all = {"a", "[a_b]~c", "a_".repeat(8), "[aaa<_bb{c_d~e}>]f", "<a;b>", "[a~b]{c,d}"};
        for (String typed : all) {
            for (int width : new int[] {1, 4, 20}) {
                Nestprint x = new Nestprint();
                x.width(width);
                Checks.read(x, typed);
                Checks.code(x, "a(b,c)+d*[e]");
                x.blank();
                due("of " + typed + " in " + width, x);
                x.ribbon(3);
                Checks.read(x, "[aa<_b>]");
                due("of one more behind " + typed + " in " + width, x);
                Checks.due("digest() again", x.digest(), x.digest());
            }
        }
    }

    /** Whatever changes one number changes the digest. */
    private static void eachNumberCounts() {
        Nestprint x = new Nestprint();
        Checks.read(x, "[aa_bb]~c");
        List<Long> seen = new ArrayList<>();
        seen.add(x.digest());
        x.width(19);
        seen.add(x.digest());
        x.ribbon(59);
        seen.add(x.digest());
        x.blank();
        seen.add(x.digest());
        x.knock();
        seen.add(x.digest());
        x.say(0, -1, -1, -1, -1, -1);
        seen.add(x.digest());
        x.say(20, 11, -1, -1, -1, -1);
        seen.add(x.digest());
        x.say(20, -1, -1, -1, -1, -1);
        seen.add(x.digest());
        x.word(0, 1);
        seen.add(x.digest());
        x.forget();
        seen.add(x.digest());
        Checks.code(x, "a");
        seen.add(x.digest());
        Checks.code(x, "a()");
        seen.add(x.digest());
        for (int one = 0; one < seen.size(); one++) {
            for (int other = 0; other < one; other++) {
                // What was said and taken off again leaves all as it was.
                boolean isBack = one == 7 && other == 4;
                Checks.due("digest " + one + " is as " + other, seen.get(one).equals(seen.get(other)), isBack);
            }
        }
    }

    private static void emptyLines() {
        Nestprint x = new Nestprint();
        Checks.read(x, "");
        due("of a TEXT without SIGNS", x);
        Checks.read(x, "___");
        due("of empty lines", x);
        Checks.read(x, "<_;,~>");
        due("of blank lines", x);
        Checks.read(x, "[;]");
        due("of an OPEN one", x);
    }

    private static void soundOnes() {
        Nestprint x = new Nestprint();
        String[] all = {"", "_", ";", "~", "[a]", "[a_[b~c]]d", "{<[a;b]>}_c", "a_".repeat(6), "a_".repeat(6) + "a"};
        for (String typed : all) {
            Checks.read(x, typed);
            for (int width : new int[] {1, 2, 3, 60}) {
                x.width(width);
                x.ribbon(61 - width);
                Checks.due("isSound() with " + typed, x.isSound(), true);
            }
        }
        Nestprint y = new Nestprint();
        String[] codes = {"a", "[]", "a()", "((((a))))", "(a*b)*(c+d)+(e+f)", "a(b(c(d(e))))", "a+".repeat(29) + "ab",
            "[" + "a,".repeat(28) + "ab]"};
        for (String typed : codes) {
            Checks.due("code() of " + typed, Checks.code(y, typed) >= 0, true);
            Checks.due("isSound() with " + typed, y.isSound(), true);
            Checks.due("plain() behind isSound() with " + typed, Checks.code(y, y.plain()), y.ofCode(1));
        }
    }
}
