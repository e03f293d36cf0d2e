import java.util.function.Consumer;

/** The edges of THE SUBJECT and how it is cut, a sentence a test: Part III, promises 11, 12 and 15. */
public final class CutEdgesTest {
    public static void main(String[] args) {
        subjectAtFirst();
        subjectOfAtMostTwoHundred();
        refusedSubjectStays();
        inCapitals();
        bothOneAtFirst();
        patternAtOrBehindFrom();
        patternAtTheEnds();
        patternThatDoesNotStandThere();
        patternOfNoBytes();
        variablesPattern();
        longestPatterns();
        placesWithinOneAndTheEnd();
        placesByBegan();
        partUpToThePlace();
        placesInNoBytes();
        placesInTwoHundred();
        atTheTemplatesEnd();
        wordsEndAheadOfABlank();
        onlyBlanksPart();
        lastOneAllThatIsLeft();
        periodIsGivenNothing();
        workedOutThen();
        longStops();
        fullStops();
        placesWhereItStopped();
        Check.finish();
    }

    private static void subjectAtFirst() {
        Check c = new Check("THE SUBJECT at first of no bytes");
        c.count(3, 0).parse("a", 1).get("a", "").known("a", 2).parse("'x' b", 1).get("b", "").places(1, 1);
    }

    private static void subjectOfAtMostTwoHundred() {
        Check c = new Check("FULL if there are more than 200");
        c.subject("").count(3, 0).subject("x").count(3, 1).subject("y".repeat(199)).count(3, 199).subject("z".repeat(200)).count(3, 200);
        c.subject("x".repeat(201), NameRoom.FULL).count(3, 200).subject("x".repeat(600), NameRoom.FULL).count(3, 200);
        c.capitals("x".repeat(201), NameRoom.FULL).count(3, 200).capitals("q".repeat(200), 200).count(3, 200).parse("a", 1);
        c.get("a", "Q".repeat(200)).subject("").count(3, 0).parse("a", 1).get("a", "");
    }

    private static void refusedSubjectStays() {
        Consumer<Check> before = c -> c.set("x=1", 1).subject("p,q").parse("',' b", 1).get("x", "1").open("", 2);
        Check.stays("FULL, and it stays", before, c -> c.subject("x".repeat(201), NameRoom.FULL));
        Check.stays("FULL, and it stays", before, c -> c.capitals("x".repeat(201), NameRoom.FULL));
    }

    private static void inCapitals() {
        StringBuilder all = new StringBuilder();
        StringBuilder capitals = new StringBuilder();
        for (int b = 60; b < 256; b++) {
            all.append((char) b);
            capitals.append((char) (b >= 'a' && b <= 'z' ? b - 32 : b));
        }
        new Check("in capitals").capitals(all.toString(), 196).parse("a", 1).get("a", capitals.toString());
        new Check("as it is").subject(all.toString()).parse("a", 1).get("a", all.toString());
        new Check("in capitals").capitals("`az{@AZ[/09:\0 ", 14).parse("a", 1).get("a", "`AZ{@AZ[/09:\0 ");
    }

    private static void bothOneAtFirst() {
        Check c = new Check("FROM and BEGAN, both 1 at first");
        c.places(1, 1).subject("abcdef").places(1, 1).parse("4", 0).places(4, 4).parse("a", 1).get("a", "abcdef").places(1, 1);
        c.parse("'c'", 0).places(4, 3).parse("+1", 0).places(2, 2).parse("'c'", 0).parse("", 0).places(1, 1);
        // they are the latest parse()'s, whatever THE SUBJECT is by now
        c.parse("'c'", 0).subject("").places(4, 3).set("x=1", 2).open("", 2).close(1).places(4, 3);
    }

    private static void patternAtOrBehindFrom() {
        Check c = new Check("at its first place at or behind FROM");
        c.subject("ababab").parse("'ab'", 0).places(3, 1).parse("1'ab'", 0).places(3, 1).parse("2'ab'", 0).places(5, 3);
        c.parse("'ab''ab'", 0).places(7, 7).parse("'ab' 'ab'", 0).places(5, 3).parse("'ab' 'ab' 'ab'", 0).places(7, 5);
        c.parse("'ab' 'ab' 'ab' 'ab'", 0).places(7, 7).parse("3'ab'", 0).places(5, 3).parse("4'ab'", 0).places(7, 5).parse("6'ab'", 0);
        c.places(7, 7).parse("5 a 'ab' b", 2).get("a", "").get("b", "").places(7, 5).parse("a 'ba' b", 2).get("a", "a").get("b", "bab");
        // one that begins ahead of FROM does not count
        c.subject("aaa").parse("'aa' 'aa'", 0).places(4, 4).parse("'aa' 2 'aa'", 0).places(4, 2);
    }

    private static void patternAtTheEnds() {
        Check c = new Check("the PART is from FROM up to it");
        c.subject("abc").parse("x 'a' y", 2).get("x", "").get("y", "bc").places(2, 1).parse("x 'c' y", 2).get("x", "ab").get("y", "");
        c.places(4, 3).parse("x 'abc' y", 2).get("x", "").get("y", "").places(4, 1).parse("x 'abcd' y", 2).get("x", "abc").places(4, 4);
        c.parse("x 'bcd' y", 2).get("x", "abc").get("y", "").places(4, 4).parse("x 'bc' y", 2).get("x", "a").get("y", "").places(4, 2);
        c.parse("x 'b' y", 2).get("x", "a").get("y", "c").places(3, 2).subject("").parse("x 'a' y", 2).get("x", "").places(1, 1);
    }

    private static void patternThatDoesNotStandThere() {
        Check c = new Check("if it does not stand there");
        c.subject("abc").parse("x 'z' y", 2).get("x", "abc").get("y", "").places(4, 4).parse("2 x 'a' y", 2).get("x", "bc").get("y", "");
        c.places(4, 4).parse("'z' x 'a' y 1 z", 3).get("x", "").get("y", "").get("z", "abc").places(1, 1);
        c.parse("x 'B' y", 2).get("x", "abc").parse("'z' -1 x", 1).get("x", "c").places(3, 3);
    }

    private static void patternOfNoBytes() {
        Check c = new Check("of no bytes: THE END");
        c.subject("abc").parse("x '' y", 2).get("x", "abc").get("y", "").places(4, 4).parse("2 x \"\" y", 2).get("x", "bc").places(4, 4);
        c.set("e=", 3).parse("x (e) y", 2).get("x", "abc").get("y", "").places(4, 4).parse("'' x 2 y", 2).get("x", "").get("y", "bc");
        c.subject("").parse("x '' y", 2).places(1, 1);
    }

    private static void variablesPattern() {
        Check c = new Check("a VARIABLE's by what it tells, else its full name");
        c.subject("aQbS.QcS.qd1e").parse("(q)", 0).places(3, 2).parse("(s.q)", 0).places(7, 4).set("s.=1", 1).parse("(s.q)", 0).places(13, 12);
        c.drop("s.q", 2).parse("(s.q)", 0).places(7, 4).set("q=q", 3).drop("s.", 1).parse("(s.q)", 0).places(11, 8).parse("(q)", 0);
        c.places(11, 10).open("", 2).parse("(q)", 0).places(3, 2).set("q=b", 2).parse("(q)", 0).places(4, 3).open("q", 3).parse("(q)", 0);
        c.places(4, 3);
    }

    private static void longestPatterns() {
        Check c = new Check("a VARIABLE's pattern may be as long as a VALUE");
        c.set("v=" + "x".repeat(199), 1).subject("x".repeat(200)).parse("(v)", 0).places(200, 1).parse("2(v)", 0).places(201, 2);
        c.parse("3(v)", 0).places(201, 201).set("v=" + "x".repeat(200), 1).parse("(v)", 0).places(201, 1).parse("2(v)", 0).places(201, 201);
        c.subject("x".repeat(199)).parse("(v)", 0).places(200, 200);
        c.set("v=" + "w".repeat(198), 1).subject("A." + "w".repeat(198)).parse("(a.v)", 0).places(201, 1);
    }

    private static void placesWithinOneAndTheEnd() {
        Check c = new Check("kept within 1 and THE END");
        c.subject("abcdef").parse("0", 0).places(1, 1).parse("1", 0).places(1, 1).parse("2", 0).places(2, 2).parse("6", 0).places(6, 6);
        c.parse("7", 0).places(7, 7).parse("8", 0).places(7, 7).parse("9999", 0).places(7, 7).parse("=0", 0).places(1, 1);
        c.parse("=7", 0).places(7, 7).parse("=8", 0).places(7, 7).parse("a 7 b", 2).get("a", "abcdef").get("b", "");
        c.parse("a 8 b", 2).get("a", "abcdef").get("b", "").parse("a 6 b", 2).get("a", "abcde").get("b", "f");
    }

    private static void placesByBegan() {
        Check c = new Check("+n BEGAN and n, -n BEGAN less n");
        c.subject("abcdef").parse("+0", 0).places(1, 1).parse("+5", 0).places(6, 6).parse("+6", 0).places(7, 7).parse("+7", 0).places(7, 7);
        c.parse("-0", 0).places(1, 1).parse("-1", 0).places(1, 1).parse("3-1", 0).places(2, 2).parse("3-2", 0).places(1, 1);
        c.parse("3-3", 0).places(1, 1).parse("3-9999", 0).places(1, 1).parse("3+9999", 0).places(7, 7).parse("9999-1", 0).places(6, 6);
        c.parse("3+3", 0).places(6, 6).parse("3+4", 0).places(7, 7).parse("3+5", 0).places(7, 7).parse("0+1", 0).places(2, 2);
        // by BEGAN, not by FROM
        c.parse("'cde'+0", 0).places(3, 3).parse("'cde'+1", 0).places(4, 4).parse("'cde'-1", 0).places(2, 2).parse("'z'-1", 0).places(6, 6);
        c.parse("'cde'+9999-9999", 0).places(1, 1);
    }

    private static void partUpToThePlace() {
        Check c = new Check("up to it, if it is behind FROM, else all to THE END");
        c.subject("abcdef").parse("3 a 4 b", 2).get("a", "c").get("b", "def").parse("3 a 3 b", 2).get("a", "cdef").get("b", "cdef");
        c.parse("3 a 2 b", 2).get("a", "cdef").get("b", "bcdef").parse("3 a 1", 1).get("a", "cdef").parse("3 a 0", 1).get("a", "cdef");
        c.parse("a 1 b", 2).get("a", "abcdef").parse("a 2 b", 2).get("a", "a").parse("7 a 7 b", 2).get("a", "").get("b", "");
        // FROM is behind a PATTERN, BEGAN at its begin
        c.parse("'cd' a +2 b", 2).get("a", "ef").get("b", "ef").parse("'cd' a +3 b", 2).get("a", "e").get("b", "f");
        c.parse("'cd' a +1 b", 2).get("a", "ef").get("b", "def");
    }

    private static void placesInNoBytes() {
        Check c = new Check("THE END of no bytes is 1");
        c.parse("a 1 b", 2).places(1, 1).parse("0", 0).places(1, 1).parse("2", 0).places(1, 1).parse("+1", 0).places(1, 1);
        c.parse("-1", 0).places(1, 1).parse("9999 a -9999 b +9999", 2).places(1, 1).get("a", "").get("b", "");
        c.subject("x").parse("2", 0).places(2, 2).parse("3", 0).places(2, 2).parse("a +1 b -1 c", 3).get("a", "x").get("b", "").get("c", "x");
    }

    private static void placesInTwoHundred() {
        Check c = new Check("THE END of 200 bytes is 201");
        c.subject("y".repeat(198) + "pq").parse("199", 0).places(199, 199).parse("200", 0).places(200, 200).parse("201", 0).places(201, 201);
        c.parse("202", 0).places(201, 201).parse("200 a", 1).get("a", "q").parse("201 a", 1).get("a", "").parse("'q' a", 1).places(201, 200);
        c.parse("'pq' b +1 d", 2).get("b", "").get("d", "q").parse("+199 a", 1).get("a", "q").parse("+200 a", 1).get("a", "");
    }

    private static void atTheTemplatesEnd() {
        Check c = new Check("At the TEMPLATE's end the PART is from FROM to THE END, FROM and BEGAN stay");
        c.subject("abcdef").parse("", 0).places(1, 1).parse("a", 1).get("a", "abcdef").places(1, 1).parse("'cd' a", 1).get("a", "ef");
        c.places(5, 3).parse("'f' a", 1).get("a", "").places(7, 6).parse("3", 0).places(3, 3).parse("a 3", 1).get("a", "ab").places(3, 3);
    }

    private static void wordsEndAheadOfABlank() {
        Check c = new Check("the next WORD of it");
        c.subject("a b").parse("x y", 2).get("x", "a").get("y", "b").subject("a  b").parse("x y", 2).get("x", "a").get("y", " b");
        c.subject("   a b").parse("x y", 2).get("x", "a").get("y", "b").subject("ab").parse("x y", 2).get("x", "ab").get("y", "");
        c.subject("ab ").parse("x y", 2).get("x", "ab").get("y", "").subject("ab  ").parse("x y", 2).get("x", "ab").get("y", " ");
        c.subject("a  b  c").parse("x y z", 3).get("x", "a").get("y", "b").get("z", " c").parse("x y z w", 4).get("z", "c").get("w", "");
        // bytes 32 alone are BLANKS
        c.subject("\ta\0b!c\u00A0d\u001Fe f").parse("x y", 2).get("x", "\ta\0b!c\u00A0d\u001Fe").get("y", "f");
    }

    private static void onlyBlanksPart() {
        Check c = new Check("a PART of BLANKS, or of nothing");
        c.subject("   ").parse("x", 1).get("x", "   ").parse("x y", 2).get("x", "").get("y", "").parse("x y z", 3).get("z", "");
        c.subject(" ").parse("x y", 2).get("x", "").get("y", "").subject("").parse("x y", 2).known("x", 2).get("x", "").get("y", "");
        // the PART ends the WORD, whatever stands behind it
        c.subject("ab cd").parse("x y 2 z", 3).get("x", "a").get("y", "").get("z", "b cd").parse("x y 4 z", 3).get("x", "ab").get("y", "");
        c.parse("x y 5 z", 3).get("x", "ab").get("y", "c").get("z", "d").parse("3 x y 4 z", 3).get("x", "").get("y", "").get("z", "cd");
    }

    private static void lastOneAllThatIsLeft() {
        Check c = new Check("the last one all that is left");
        c.subject(" a  b ").parse("x", 1).get("x", " a  b ").parse("x y", 2).get("y", " b ").parse("x . z", 3).get("z", "");
        c.parse("x 3 y", 2).get("x", " a").get("y", "  b ").parse("2 x", 1).get("x", "a  b ").parse("2 3 x", 1).get("x", "  b ");
        c.parse("3 4 x 'b' y z", 3).get("x", " ").get("y", "").get("z", "");
    }

    private static void periodIsGivenNothing() {
        Check c = new Check("a period is given nothing");
        c.subject("a b c").parse(".", 1).count(0, 0).parse(". . .", 3).count(0, 0).parse(". x .", 3).count(0, 1).get("x", "b");
        c.parse(". x", 2).get("x", "b c").parse("x .", 2).get("x", "a").parse(". 3 x 2 .", 3).get("x", "b c").count(0, 1);
    }

    private static void workedOutThen() {
        Check c = new Check("its full name worked out then");
        c.subject("1 2 3").parse("i s.i j", 3).get("s.1", "2").name(1, 0, "S.1").parse("s.i i s.i", 3).get("s.1", "1").get("s.2", "3");
        c.subject("1,2").parse("i 2 t.i", 2).get("t.1", ",2").subject(",x").parse("p 2 (p) q", 2).get("q", "").get("p", ",");
        c.subject("x.,y").parse("i 2 i 3 (i) z", 3).get("i", ".").get("z", "");
    }

    private static void longStops() {
        Check c = new Check("If it is LONG, all stops there; what was given so far stays");
        c.set("v=" + "v".repeat(198), 1).subject("a b c,d").parse("x a.v y ',' z", 4).count(0, 5).get("a.v", "b");
        c.parse("y ab.v z ',' x", NameRoom.LONG).get("y", "a").get("z", "d").get("x", "a").places(7, 6);
        c.parse("z 3 x (ab.v) y", NameRoom.LONG).get("z", "a ").get("x", "a").get("y", "a").places(3, 3).count(0, 5);
    }

    private static void fullStops() {
        Check c = new Check("or FULL, all stops there; what was given so far stays");
        c.giveMany("n", 98).subject("a b c,d").parse("n1 p n2 q ',' n3", 5).count(0, 100).get("n2", "c").get("q", "").get("n3", "d");
        c.parse("n4 n5 r n6 ',' n7", NameRoom.FULL).count(0, 100).get("n4", "a").get("n5", "b").known("r", 0).get("n6", "").get("n7", "");
        c.parse(". ',' r", NameRoom.FULL).places(7, 6).parse("n8 r", NameRoom.FULL).get("n8", "a").parse("n9 .", 2).get("n9", "a");
        c.drop("p", 99).parse("n0 r n1 t n2", NameRoom.FULL).get("r", "b").get("n1", "c,d").known("t", 0).get("n2", "c").count(0, 100);
    }

    private static void placesWhereItStopped() {
        Check c = new Check("those where it stopped");
        c.set("v=" + "v".repeat(200), 1).subject("abc,def").parse("2 a.v ',' x 7", NameRoom.LONG).places(5, 4);
        c.parse("2 x (a.v) 7", NameRoom.LONG).places(2, 2).known("x", 0).parse("a.v", NameRoom.LONG).places(1, 1);
        c.parse("',' a.v", NameRoom.LONG).places(5, 4).parse("3 a.v 2 6", NameRoom.LONG).places(2, 2).parse("(a.v)", NameRoom.LONG);
        c.places(1, 1).parse("6 'q' a.v", NameRoom.LONG).places(8, 8).parse("6,", -1001).places(8, 8);
    }
}
