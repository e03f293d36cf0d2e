import java.util.function.Consumer;

/** The edges of a TEMPLATE's TOKENS, a sentence a test: Part III, promise 12. */
public final class TokenEdgesTest {
    private static final String SUBJECT = "abcdef";

    public static void main(String[] args) {
        blanksBetween();
        noBlanksBetween();
        bytesThatBeginNoToken();
        bytesBehindAVariable();
        periodAlone();
        stringsOfAtMostForty();
        fortyFirstByte();
        doubledQuotes();
        doubledQuotesOfAtMostForty();
        withoutItsEnd();
        bracketTexts();
        bracketWithoutAVariable();
        bracketWithoutItsEnd();
        placesOfOneToFourDigits();
        placesWithASign();
        signWithoutANumber();
        digitsAndOtherBytes();
        longestTemplates();
        wrongLeavesAll();
        Check.finish();
    }

    private static Check told(String title) {
        return new Check(title).subject(SUBJECT);
    }

    private static void blanksBetween() {
        Check c = told("TOKENS with any blanks between");
        c.parse("a 3 b", 2).get("a", "ab").get("b", "cdef").parse("a   3   b", 2).get("b", "cdef").parse("  a 3 b  ", 2).get("b", "cdef");
        c.parse(" ", 0).parse(" ".repeat(600), 0).parse("a\t3", -1001).parse("a\n3", -1001).parse("a\u00A03", -1001).places(1, 1);
    }

    private static void noBlanksBetween() {
        Check c = told("also none, where they can be told apart").set("q=e", 1);
        c.parse("a'b'c\"c\"d(q)e", 4).get("a", "a").get("c", "").get("d", "d").get("e", "f");
        c.parse("a=2 b+1 c-1 d", 4).get("a", "a").get("b", "b").get("c", "cdef").get("d", "bcdef");
        c.parse("'b'3=4+1-1(q)'f'.", 1).places(7, 6).parse(".'b'.\"c\".(q).", 4).parse("2'c'2(q)2 a", 1).get("a", "bcdef");
        // a number and a name can't be told apart, nor two quotes of one kind, nor two periods
        c.parse("2a", -1001).parse("a2", 1).parse("'b''c'", 0).parse("'b'\"c\"", 0).parse(". .", 2).parse("..", -1000).places(1, 1);
    }

    private static void bytesThatBeginNoToken() {
        String begins = "ABCDEFGHIJKLMNOPQRSTUVWXYZabcdefghijklmnopqrstuvwxyz!?_.";
        for (int b = 0; b < 256; b++) {
            Check c = told("the first byte with which a text can't go on: byte " + b);
            String text = String.valueOf((char) b);
            int want = begins.indexOf(b) >= 0 ? 1 : b == ' ' || b >= '0' && b <= '9' ? 0 : -1000;
            int tooShort = "(+-=".indexOf(b) >= 0 ? -1 : 0;
            c.parse(text, want + tooShort).parse("3 " + text, want < 0 ? want + tooShort - 2 : want);
        }
    }

    private static void bytesBehindAVariable() {
        String more = "ABCDEFGHIJKLMNOPQRSTUVWXYZabcdefghijklmnopqrstuvwxyz!?_.0123456789 ";
        for (int b = 0; b < 256; b++) {
            Check c = told("behind a VARIABLE: byte " + b);
            boolean opens = "(+-=".indexOf(b) >= 0;
            boolean quote = b == '\'' || b == '"';
            c.parse("a" + (char) b, more.indexOf(b) >= 0 ? 1 : opens ? -1002 : -1001);
            c.parse("a" + (char) b + (char) b, more.indexOf(b) >= 0 || quote ? 1 : opens ? -1002 : -1001);
        }
    }

    private static void periodAlone() {
        Check c = told("a period alone");
        c.parse(".", 1).count(0, 0).parse(". a", 2).get("a", "").parse(".,", -1001).parse(".'b'a", 2).get("a", "cdef");
        c.parse("..", -1000).parse(".a", -1000).parse(".1", -1000).parse("._", -1000).parse("a ..", -1002).parse(". .a", -1002);
        c.parse("a.", 1).known("a.", 2).parse("a. .", 2).parse("a..", 1).parse("(.)", -1001).parse(".(.)", -1002).count(0, 3);
    }

    private static void stringsOfAtMostForty() {
        Check c = new Check("at most 40 bytes");
        String less = "x".repeat(39);
        c.subject("a" + "x".repeat(41) + "b");
        c.parse("''", 0).places(44, 44).parse("'x'", 0).places(3, 2).parse("'" + less + "'", 0).places(41, 2);
        c.parse("'x" + less + "'", 0).places(42, 2).parse("\"x" + less + "\"", 0).places(42, 2);
        c.parse("'xx" + less + "'", -1041).parse("\"xx" + less + "\"", -1041).places(42, 2);
    }

    private static void fortyFirstByte() {
        Check c = new Check("the 41st is WRONG");
        String forty = "y".repeat(40);
        c.parse("'" + forty + "'", 0).parse("'" + forty + "z'", -1041).parse("a '" + forty + "zz'", -1043);
        c.parse("'" + forty + "\"'", -1041).parse("'" + forty + " '", -1041).parse("'" + forty + "\0'", -1041);
        c.parse("'" + forty + "''z'", -1041).parse("'" + forty + "z", -1041).parse("'" + "y".repeat(560), -1041);
        c.parse("'" + forty + "' '" + forty + "z'", -1084).parse("'" + forty + "'z", 1).parse("'" + forty + "'\"z\"", 0);
    }

    private static void doubledQuotes() {
        Check c = new Check("two of them one right behind the other being one byte of it");
        c.subject("a'b\"c''d\"\"e");
        c.parse("''''", 0).places(3, 2).parse("\"\"\"\"", 0).places(5, 4).parse("''''''", 0).places(8, 6).parse("'\"'", 0).places(5, 4);
        c.parse("\"'\"", 0).places(3, 2).parse("'\"\"'", 0).places(11, 9).parse("\"''\"", 0).places(8, 6).parse("'a''b'", 0).places(4, 1);
        c.parse("'''b'", 0).places(4, 2).parse("'a'''", 0).places(3, 1).parse("'' ''", 0).places(12, 12).parse("'''", -1000);
    }

    private static void doubledQuotesOfAtMostForty() {
        Check c = new Check("a doubled one counts once");
        c.subject("a" + "'".repeat(41) + "b").parse("'" + "''".repeat(39) + "'", 0).places(41, 2);
        c.parse("'" + "''".repeat(40) + "'", 0).places(42, 2).parse("'" + "''".repeat(41) + "'", -1081).places(42, 2);
    }

    private static void withoutItsEnd() {
        Check c = new Check("without its end WRONG at its first byte");
        c.parse("'", -1000).parse("\"", -1000).parse("'a", -1000).parse("'a\"", -1000).parse("\"a'", -1000).parse("'''", -1000);
        c.parse("'a''", -1000).parse("a '", -1002).parse("a 'b", -1002).parse("a 'b' 'c", -1006).parse("'b''", -1000);
        c.parse("'" + "y".repeat(39), -1000).parse("'" + "y".repeat(40), -1000).parse("'" + "''".repeat(40), -1000);
        c.parse("'" + "y".repeat(40) + "''", -1041).parse("3 \"a ) ( 4", -1002).count(0, 0).places(1, 1);
    }

    private static void bracketTexts() {
        Check c = told("a VARIABLE in brackets").set("q=cd", 1).set("s.=e", 2);
        c.parse("(q)", 0).places(5, 3).parse("( q)", 0).places(5, 3).parse("(q )", 0).places(5, 3).parse("(   q   )", 0).places(5, 3);
        c.parse("(Q)", 0).places(5, 3).parse("(s.)", 0).places(6, 5).parse("(s.q)", 0).places(6, 5).parse("(s.q.)", 0).places(6, 5);
        c.parse("(" + " ".repeat(297) + "q" + " ".repeat(300) + ")", 0).places(5, 3).parse("(q)(s.)", 0).places(6, 5);
    }

    private static void bracketWithoutAVariable() {
        Check c = told("a bracket without a VARIABLE, where that should be");
        c.parse("(", -1001).parse("( ", -1002).parse("()", -1001).parse("(  )", -1003).parse("(1)", -1001).parse("( 1a)", -1002);
        c.parse("(.)", -1001).parse("(.a)", -1001).parse("('a')", -1001).parse("((a))", -1001).parse("(+1)", -1001).parse("(=a)", -1001);
        c.parse("a (,", -1003).parse("(\t)", -1001).parse(")", -1000).parse("a )", -1002).places(1, 1).count(0, 0);
    }

    private static void bracketWithoutItsEnd() {
        Check c = told("or without its end, where that should be");
        c.parse("(a", -1002).parse("(a ", -1003).parse("(a   ", -1005).parse("(a b)", -1003).parse("(a,b)", -1002).parse("(a'b')", -1002);
        c.parse("(a(b))", -1002).parse("(a =1)", -1003).parse("(a 1)", -1003).parse("(a .)", -1003).parse("(a))", -1003);
        c.parse("a (b", -1004).parse("(a\0)", -1002).places(1, 1).count(0, 0);
    }

    private static void placesOfOneToFourDigits() {
        Check c = told("a number of 1 to 4 digits");
        c.parse("2", 0).places(2, 2).parse("02", 0).places(2, 2).parse("003", 0).places(3, 3).parse("0004", 0).places(4, 4);
        c.parse("0000", 0).places(1, 1).parse("9999", 0).places(7, 7).parse("00005", -1004).parse("12345", -1004).parse("1234567", -1004);
        c.parse("a 00005", -1006).parse("+00005", -1005).parse("- 00005", -1006).parse("=12345678901", -1005).parse("+0004", 0).places(5, 5);
        c.parse("0".repeat(31), -1004).parse("0003 00004", -1009).places(5, 5);
    }

    private static void placesWithASign() {
        Check c = told("alone or with +, - or = ahead (blanks may stand behind that)");
        c.parse("3", 0).places(3, 3).parse("=4", 0).places(4, 4).parse("= 4", 0).places(4, 4).parse("=    5", 0).places(5, 5);
        c.parse("+1", 0).places(2, 2).parse("+ 1", 0).places(2, 2).parse("3+    1", 0).places(4, 4).parse("3-1", 0).places(2, 2);
        c.parse("3 - 1", 0).places(2, 2).parse("3 -    1", 0).places(2, 2).parse("3=5", 0).places(5, 5).parse("3 +1 +1 -2", 0).places(3, 3);
        c.parse("+" + " ".repeat(598) + "3", 0).places(4, 4);
    }

    private static void signWithoutANumber() {
        Check c = told("a sign without its number");
        for (String sign : new String[] {"+", "-", "="}) {
            c.parse(sign, -1001).parse(sign + "  ", -1003).parse(sign + "a", -1001).parse(sign + " a", -1002).parse(sign + ".", -1001);
            c.parse(sign + "+1", -1001).parse(sign + " -1", -1002).parse(sign + "=1", -1001).parse(sign + "'1'", -1001);
            c.parse(sign + "(a)", -1001).parse(sign + " )", -1002).parse(sign + "\t1", -1001).parse("a " + sign, -1003);
        }
        c.places(1, 1).count(0, 0);
    }

    private static void digitsAndOtherBytes() {
        Check c = told("a SYMBOL that begins with a digit and has other bytes at its first other one");
        c.parse("1a", -1001).parse("12a", -1002).parse("123a", -1003).parse("1234a", -1004).parse("12345a", -1004).parse("1a2345", -1001);
        c.parse("1.", -1001).parse("1.5", -1001).parse("1!", -1001).parse("1?", -1001).parse("1_", -1001).parse("1Z", -1001);
        c.parse("+1a", -1002).parse("- 12a", -1004).parse("=1234.", -1005).parse("a 3x", -1003).parse("3 4x", -1003);
        c.parse("1,", -1001).parse("1'b'", 0).parse("1(b)", 0).parse("1" + "a".repeat(40), -1001).places(7, 7);
    }

    private static void longestTemplates() {
        Check c = told("the longest TEMPLATES");
        c.parse("a ".repeat(300), 300).count(0, 1).get("a", "").parse(".''".repeat(200), 200).places(7, 7);
        c.parse("1 ".repeat(300), 0).places(1, 1).parse("+0".repeat(300), 0).places(1, 1).parse("1'a'".repeat(150), 0).places(2, 1);
        c.parse("a ".repeat(299) + "a,", -1599).parse("a ".repeat(299) + "''", 299);
    }

    private static void wrongLeavesAll() {
        Consumer<Check> before = c -> c.set("a=1", 1).set("s.=2", 2).set("s.1=3", 3).drop("s.2", 4).subject("p,q")
                .parse("b ',' c 2", 2).get("s.9", "2");
        for (String wrong : new String[] {"'", "(", "(1)", "12345", "3x", "+", ",", "..", ".a", "'" + "y".repeat(41) + "'", "(a"}) {
            Check with = new Check("WRONG").tape("a s. 3 ',' " + wrong);
            int want = with.parse();
            with.due("is WRONG", String.valueOf(want <= -1011), "true");
            Check.stays("WRONG, and nothing is done", before, c -> c.parse("a s. 3 ',' " + wrong, want));
        }
    }
}
