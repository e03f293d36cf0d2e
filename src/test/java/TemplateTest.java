/** Promises 11 and 12: subject and parse, and FROM and BEGAN of count. */
public final class TemplateTest {
    public static void main(String[] args) {
        subjects();
        words();
        strings();
        variablePatterns();
        places();
        placesBehindPatterns();
        inOrder();
        stops();
        tokens();
        wrongTokens();
        wrongStrings();
        Check.finish();
    }

    private static void subjects() {
        Check c = new Check("subjects");
        c.parse("a", 1).known("a", 2).get("a", "");
        c.subject("aZ{`\u00E4 9").count(3, 7).parse("a", 1).get("a", "aZ{`\u00E4 9");
        c.due("capitals", c.tape("azAZ{`\u00E4 9").subject(true), 9);
        c.parse("a", 1).get("a", "AZAZ{`\u00E4 9");
        c.due("too long", c.tape("x".repeat(201)).subject(false), NameRoom.FULL);
        c.count(3, 9).parse("a", 1).get("a", "AZAZ{`\u00E4 9");
        c.subject("y".repeat(200)).parse("a", 1).get("a", "y".repeat(200)).subject("").count(3, 0);
        c.subject("abc").parse("2", 0).subject("xyz").places(2, 2);
    }

    private static void words() {
        Check c = new Check("words");
        c.subject("  one  two   three ").parse("a b c", 3).get("a", "one").get("b", "two").get("c", "  three ");
        c.parse("a", 1).get("a", "  one  two   three ").parse("a b", 2).get("a", "one").get("b", " two   three ");
        c.parse("a b c d e", 5).get("c", "three").get("d", "").get("e", "").places(1, 1);
        c.parse(". b .", 3).get("b", "two").parse("a . . d", 4).get("a", "one").get("d", "");
        c.subject("x\ty").parse("a b", 2).get("a", "x\ty").get("b", "");
        c.subject("   ").parse("a b", 2).get("a", "").get("b", "").parse("a", 1).get("a", "   ");
        c.subject("ab ").parse("a b", 2).get("a", "ab").get("b", "");
        c.parse("", 0).places(1, 1).parse(".", 1).count(0, 5);
    }

    private static void strings() {
        Check c = new Check("strings");
        c.subject("a,b,c").parse("x ',' y", 2).get("x", "a").get("y", "b,c").places(3, 2);
        c.parse("x','y','z','w", 4).get("z", "c").get("w", "").places(6, 6);
        c.parse("x ';' y", 2).get("x", "a,b,c").get("y", "").places(6, 6);
        c.parse("x '' y", 2).get("x", "a,b,c").get("y", "").places(6, 6);
        c.parse("x \",b,\" y", 2).get("x", "a").get("y", "c").places(5, 2).parse("x 'c' y", 2).places(6, 5);
        c.parse("x 'a' y", 2).get("x", "").get("y", ",b,c").places(2, 1).parse("'a' x 'a' y", 2).get("x", ",b,c");
        c.subject("it's \"so\"").parse("x '''' y '\"' z \"\"\"\" w", 4).get("x", "it").get("y", "s ").get("z", "so");
        c.subject("aXb").parse("p 'x' q", 2).get("p", "aXb").parse("p 'X' q", 2).get("q", "b");
        c.subject("aab").parse("p 'ab' q", 2).get("p", "a").subject("ab").parse("p 'abc' q", 2).get("p", "ab");
        c.subject("one two,three four").parse("p q ',' r s", 4).get("p", "one").get("q", "two").get("s", "four");
    }

    private static void variablePatterns() {
        Check c = new Check("variable patterns");
        c.set("d=--", 1).subject("a--b--c").parse("x (d) y ( D  ) z", 3).get("x", "a").get("y", "b").get("z", "c").places(7, 5);
        c.subject("1Q2").parse("x (q) y", 2).get("x", "1").get("y", "2");
        c.subject("1S.72").parse("x (s.7) y", 2).get("x", "1").get("y", "2");
        c.set("s.=:", 5).subject("1:2").parse("x (s.7) y", 2).get("x", "1").get("y", "2");
        c.set("e=", 6).parse("x (e) y", 2).get("x", "1:2").get("y", "").places(4, 4);
        // the pattern is what it tells before its own targets are given, and behind those ahead
        c.subject(",;a,b;c,d").parse("t 2 u (t) v", 3).get("u", ";a").get("v", "b;c,d");
        c.set("w=b", 10).subject("abc").parse("w (w) v", 2).get("w", "a").get("v", "c");
    }

    private static void places() {
        Check c = new Check("places");
        c.subject("abcdef").parse("a 3 b 5 c", 3).get("a", "ab").get("b", "cd").get("c", "ef").places(5, 5);
        c.parse("a =3 b = 5 c", 3).get("a", "ab").get("b", "cd").get("c", "ef");
        c.parse("a +2 b + 1 c -2 d", 4).get("a", "ab").get("b", "c").get("c", "def").get("d", "bcdef").places(2, 2);
        c.parse("a 0 b", 2).get("a", "abcdef").get("b", "abcdef").places(1, 1).parse("a 1 b", 2).get("a", "abcdef");
        c.parse("a 7 b", 2).get("a", "abcdef").get("b", "").places(7, 7).parse("a 9999 b", 2).get("b", "").places(7, 7);
        c.parse("a +9999 b -9999 c", 3).get("a", "abcdef").get("b", "").get("c", "abcdef").places(1, 1);
        c.parse("3 a 3 b", 2).get("a", "cdef").get("b", "cdef").parse("3 a +0 b", 2).get("a", "cdef");
        c.parse("0002 a 0003 b", 2).get("a", "b").get("b", "cdef").parse("5 a 2 b", 2).get("a", "ef").get("b", "bcdef");
        c.parse("2 4 6 a", 1).get("a", "f").parse("7 a 7 b", 2).get("a", "").get("b", "");
    }

    private static void placesBehindPatterns() {
        Check c = new Check("places behind patterns");
        c.subject("abcdef").parse("a 'cd' b +1 c", 3).get("a", "ab").get("b", "ef").get("c", "def").places(4, 4);
        c.parse("a 'cd' b +2 c", 3).get("b", "ef").get("c", "ef").places(5, 5).parse("'cd' b +3 c", 2).get("b", "e").get("c", "f");
        c.parse("'cd' b -1 c", 2).get("b", "ef").get("c", "bcdef").parse("'x' b -1 c", 2).get("b", "").get("c", "f");
        c.parse("'cd' +0 a 'cd'", 1).get("a", "").places(5, 3);
    }

    private static void inOrder() {
        Check c = new Check("in order");
        c.subject("1 one 2 two").parse("i s.i i s.i", 4).get("s.1", "one").get("s.2", "two").get("i", "2");
        c.name(0, 0, "I").name(1, 0, "S.1").name(2, 0, "S.2").parse("s. a", 2).get("s.1", "1").known("s.2", 1).count(0, 3);
        c.parse("i i", 2).get("i", "one 2 two");
        c.open("a", 2).parse("a b", 2).name(3, 1, "B").close(1).get("a", "1").known("b", 0);
    }

    private static void stops() {
        Check c = new Check("stops");
        c.set("v=" + "v".repeat(199), 1).subject("a b,c").parse("x a.v ',' y", NameRoom.LONG).places(5, 4);
        c.get("x", "a").known("y", 0).parse("x '1' y ',' z (a.v) w", NameRoom.LONG).get("x", "a b,c").get("y", "");
        c.places(6, 6).known("z", 0).parse("z 3 x (a.v) w", NameRoom.LONG).get("z", "a ").get("x", "a b,c").places(3, 3);
        c.parse("q 99999", -1006).known("q", 0).places(3, 3).parse("4 q 'x", -1004).places(3, 3);

        Check f = new Check("stops full");
        for (int i = 1; i < 99; i++) {
            f.due("set", f.tape("t." + i + "=v").set(), i);
        }
        f.subject("a b c d,e").parse("a t.1 b c ',' d", NameRoom.FULL).count(0, 100).places(9, 8);
        f.get("t.1", "b").get("b", "c").known("c", 0).known("d", 0);
        f.parse(". t. z", 3).count(0, 4).get("z", "c d,e").get("t.5", "b");
    }

    private static void tokens() {
        Check c = new Check("tokens");
        c.set("d=,", 1).subject("a,b,c,d");
        c.parse("w(d)x','y(d)z", 4).get("w", "a").get("x", "b").get("y", "c").get("z", "d");
        c.parse("x=3y+2z-1w", -1003).parse("x=3 y+2 z-1 w", 4).get("x", "a,").get("y", "b,").get("z", "c,d").get("w", ",c,d");
        c.parse("3'c'x 1+2-1", 1).get("x", ",d").parse(".','.\",\"x", 3).get("x", "c,d").parse("   x   3   ", 1).get("x", "a,");
        c.parse("   ", 0).parse("a.b.c. a.", 2).known("a.", 2).parse("(d)(d)x", 1).get("x", "c,d").parse("=  \u0020 3 x", 1);
        StringBuilder many = new StringBuilder();
        for (int i = 0; i < 200; i++) {
            many.append(".''");
        }
        c.parse(many.toString(), 200).places(8, 8);
    }

    private static void wrongTokens() {
        Check c = new Check("wrong tokens");
        c.parse(",", -1000).parse("a ,", -1002).parse("a\t", -1001).parse("a\0", -1001).parse(")", -1000).parse("a &", -1002);
        c.parse("..", -1000).parse("a .b", -1002).parse(".1", -1000).parse("a . ..", -1004);
        c.parse("abcdefghijklmnopqrstuvwxyz12345", -1030).parse(".abcdefghijklmnopqrstuvwxyz12345", -1000);
        c.parse("12345", -1004).parse("1234a", -1004).parse("12a4", -1002).parse("1.", -1001).parse("1_", -1001).parse("a +12345", -1007);
        c.parse("+12a", -1003).parse("+", -1001).parse("+  ", -1003).parse("+ a", -1002).parse("+-1", -1001).parse("==1", -1001);
        c.parse("-(a)", -1001).parse("='1'", -1001).parse("- .", -1002).parse("a + + 1", -1004);
        c.parse("(", -1001).parse("()", -1001).parse("(  ", -1003).parse("(  )", -1003).parse("(1)", -1001).parse("(12a)", -1001);
        c.parse("(.)", -1001).parse("(.a)", -1001).parse("('a')", -1001).parse("(a", -1002).parse("(a  ", -1004).parse("(a b)", -1003);
        c.parse("(a'x')", -1002).parse("(a\"", -1002).parse("((a))", -1001).parse("(abcdefghijklmnopqrstuvwxyz12345)", -1031);
        c.count(0, 0).places(1, 1);
    }

    private static void wrongStrings() {
        Check c = new Check("wrong strings");
        String forty = "x".repeat(40);
        c.parse("'", -1000).parse("a '", -1002).parse("a 'b", -1002).parse("a 'b\"", -1002).parse("'''", -1000).parse("'a'''", 0);
        c.parse("'a''", -1000).parse("'a' \"b", -1004).parse("'" + forty + "'", 0).parse("'" + forty + "x'", -1041);
        c.parse("'" + forty + "xyz", -1041).parse("'" + forty, -1000).parse("a'" + "''".repeat(40) + "'", 1);
        c.parse("'" + "''".repeat(41) + "'", -1081).parse("'" + forty + "'''", -1041).parse("'" + forty + "'\"\"", 0);
        c.subject("1" + forty + "2").parse("a '" + forty + "' b", 2).get("a", "1").get("b", "2").places(42, 2);
        c.subject("1" + "'".repeat(40) + "2").parse("a '" + "''".repeat(40) + "' b", 2).get("a", "1").get("b", "2");
    }
}
