import java.util.function.Consumer;

/** The edges of what is GIVEN and GONE, a sentence a test: Part II, promises 5 to 8 and 13 to 15. */
public final class ListEdgesTest {
    public static void main(String[] args) {
        tellsItsValue();
        tellsTheStems();
        goneTellsNothing();
        stemTakesAway();
        stemTakesAwayInItsOwnPool();
        dropOfAStem();
        dropOfACompoundOne();
        dropOfAnother();
        dropInTheSamePool();
        dropsFromTheLeft();
        atMostAHundredGiven();
        atMostAHundredGone();
        atMostAHundredInAllPools();
        fullLeavesAll();
        fullBehindOthers();
        stemMakesRoom();
        inTheOrderTheyCame();
        givenAgainStaysInItsPlace();
        takenAwayGoes();
        nameEdges();
        valueEdges();
        countEdges();
        Check.finish();
    }

    private static void tellsItsValue() {
        Check c = new Check("It tells its VALUE");
        c.known("x", 0).get("x", "X").set("x=", 1).known("x", 2).get("x", "").set("x=X", 1).known("x", 2).get("x", "X");
        c.set("s.=1", 2).set("s.1=1", 3).known("s.1", 2).set("s.1=", 3).known("s.1", 2).get("s.1", "");
    }

    private static void tellsTheStems() {
        Check c = new Check("else, if it is COMPOUND, the STEM's");
        c.known("s.1", 0).get("s.1", "S.1").set("s.=", 1).known("s.1", 1).get("s.1", "").known("s..", 1).known("s.1.2", 1);
        c.known("s", 0).known("s.", 2).known("ss.1", 0).known("r.1", 0).set("s.1.=x", 2).known("s.1.2", 1).get("s.1.2", "");
    }

    private static void goneTellsNothing() {
        Check c = new Check("not GONE");
        c.set("s.=all", 1).drop("s.1", 2).known("s.1", 0).get("s.1", "S.1").known("s.1.1", 1).known("s.2", 1).known("s.", 2);
        c.set("s.1=one", 2).known("s.1", 2).drop("s.1", 2).known("s.1", 0).drop("s.1", 2).known("s.1", 0);
        // a GONE one is worked out as itself, and as a pattern it is its full name
        c.subject("aS.1b").parse("x (s.1) y", 2).get("x", "a").get("y", "b");
    }

    private static void stemTakesAway() {
        Check c = new Check("takes away all that begins with it (GIVEN and GONE ones)");
        c.set("s.=0", 1).set("s.1=1", 2).drop("s.2", 3).set("s..=3", 4).set("s.a.b=4", 5).set("s=5", 6).set("sa.1=6", 7);
        c.set("as.1=7", 8).set("s.=8", 4).known("s.1", 1).known("s.2", 1).known("s..", 1).known("s.a.b", 1).known("s", 2);
        c.known("sa.1", 2).known("as.1", 2).name(0, 0, "S.").value(0, "8").name(1, 0, "S").name(2, 0, "SA.1").name(3, 0, "AS.1");

        Check none = new Check("takes away though it was not there");
        none.set("s.1=1", 1).set("s.2=2", 2).set("s.=", 1).known("s.1", 1).name(0, 0, "S.").value(0, "");
    }

    private static void stemTakesAwayInItsOwnPool() {
        Check c = new Check("in its own POOL");
        c.set("s.=0", 1).set("s.1=1", 2).open("s.1", 2).set("s.2=2", 3).set("s.=3", 3).known("s.2", 1).get("s.1", "1");
        c.count(0, 3).name(2, 1, "S.").close(1).get("s.1", "1").get("s.2", "0");
        c.open("s.", 2).set("s.=4", 1).name(0, 0, "S.").close(1).get("s.1", "4");
        c.set("s.1=5", 2).open("", 2).open("s.", 3).set("s.=6", 3).name(2, 1, "S.").close(2).close(1).get("s.1", "5");
    }

    private static void dropOfAStem() {
        Check c = new Check("of a STEM likewise, and it is no more GIVEN");
        c.drop("s.", 0).set("s.1=1", 1).drop("s.", 0).set("s.=0", 1).drop("s.", 0).known("s.", 0).known("s.1", 0);
        c.set("s.=0", 1).set("s.1=1", 2).drop("s.2", 3).set("s=3", 4).set("sa.=4", 5).drop("s.", 2).known("s.1", 0);
        c.known("s", 2).known("sa.", 2).name(0, 0, "S").name(1, 0, "SA.").set("s.=5", 3).known("s.2", 1);
    }

    private static void dropOfACompoundOne() {
        Check c = new Check("a COMPOUND one whose STEM is GIVEN is GONE");
        c.set("s.=", 1).drop("s.1", 2).valueFails(1, NameRoom.STATE).name(1, 0, "S.1").set("s.2=2", 3).drop("s.2", 3);
        c.valueFails(2, NameRoom.STATE).drop("s.1", 3).drop("s.2 s.1", 3).drop("s..", 4).drop("s", 4).drop("s.1.1", 5);
    }

    private static void dropOfAnother() {
        Check c = new Check("else it is neither");
        c.drop("x", 0).drop("s.1", 0).set("x=1", 1).set("s.1=2", 2).drop("s.1", 1).known("s.1", 0).drop("x", 0).known("x", 0);
        c.set("s.1=1", 1).set("s.2=2", 2).drop("s.1", 1).name(0, 0, "S.2").set("r.=3", 2).drop("s.2", 1).name(0, 0, "R.");
    }

    private static void dropInTheSamePool() {
        Check c = new Check("GIVEN in the same POOL");
        // the inner STEM is no STEM of what lies in the outer POOL, nor the outer one of what lies in the inner
        c.open("s.1", 2).set("s.=in", 1).drop("s.1", 1).set("s.1=1", 2).name(1, 0, "S.1").drop("s.1", 1).drop("s.2", 2).close(1);
        c.count(0, 0).set("s.=out", 1).open("s.1", 2).drop("s.2", 1).drop("s.1", 2).name(1, 0, "S.1").known("s.1", 0);
        c.set("s.=in", 3).known("s.1", 0).drop("s.1", 3).drop("s.2", 4).name(3, 1, "S.2").close(1).known("s.2", 1).known("s.1", 0);
    }

    private static void dropsFromTheLeft() {
        Check c = new Check("they are dropped, from the left");
        c.set("s.=1", 1).drop("s. s.1", 0).set("s.=1", 1).drop("s.1 s.", 0).set("s.=1", 1).drop("s.1", 2);
        c.set("i=1", 3).set("t.1=1", 4).set("t.I=2", 4).drop("t.i i t.i", 2).known("t.1", 0);
        c.set("i=1", 3).set("t.1=1", 4).drop("i t.i", 3).known("t.1", 2).drop("t.1 t.1", 2);
        c.drop("a", 2).drop("a b", 2).drop("a  b", -1002).drop("a b ", -1004);
    }

    private static Check crowded(String title, int size) {
        return new Check(title).set("s.=0", 1).giveMany("n", size - 1).count(0, size);
    }

    private static void atMostAHundredGiven() {
        crowded("at most 100 GIVEN", 98).set("x=1", 99).set("y=1", 100).set("z=1", NameRoom.FULL).known("z", 0);
        crowded("at most 100 GIVEN", 99).set("x=1", 100).set("y=1", NameRoom.FULL).set("x=2", 100).set("s.1=1", NameRoom.FULL);
        Check c = crowded("at most 100 GIVEN", 100);
        c.set("x=1", NameRoom.FULL).set("n5=1", 100).set("s.=1", 100).set("t.=1", NameRoom.FULL).drop("n5", 99).set("x=1", 100);
        c.set("y=1", NameRoom.FULL).subject("1 2").parse("y", NameRoom.FULL).parse("x n7", 2).get("n7", "2").count(0, 100);
    }

    private static void atMostAHundredGone() {
        crowded("at most 100 GONE", 98).drop("s.1", 99).drop("s.2", 100).drop("s.3", NameRoom.FULL).known("s.3", 1).count(0, 100);
        Check c = crowded("at most 100 GONE", 99).drop("s.1", 100).drop("s.2", NameRoom.FULL).known("s.2", 1);
        // one that is there takes no room again
        c.drop("s.1", 100).set("s.1=1", 100).drop("s.1", 100).drop("t.1", 100).drop("x", 100).known("s.1", 0);
        c.drop("n1 s.2", 100).known("s.2", 0).drop("s.3", NameRoom.FULL).drop("s.", 97);
    }

    private static void atMostAHundredInAllPools() {
        Check c = crowded("in all POOLS", 98);
        c.open("n1", 2).set("x=1", 99).open("", 3).set("x=1", 100).set("y=1", NameRoom.FULL).set("n1=1", NameRoom.FULL);
        c.close(2).count(0, 99).set("n1=1", 99).set("y=1", 100).set("n2=1", NameRoom.FULL).close(1).count(0, 98).set("z=1", 99);
        c.set("y=1", 100).set("x=1", NameRoom.FULL);
    }

    private static void fullLeavesAll() {
        Consumer<Check> before = c -> c.set("s.=0", 1).drop("s.1", 2).set("s.2=2", 3).set("r.1=3", 4).subject("p,q")
                .giveMany("n", 96).parse("',' .", 1).get("s.9", "0").count(0, 100);
        for (int first = 0; first < 100; first += 33) {
            int stop = first + 34;
            Check.stays("a FULL set", before, c -> c.set("x=1", NameRoom.FULL), first, stop);
            Check.stays("a FULL set of a COMPOUND one", before, c -> c.set("s.3=1", NameRoom.FULL), first, stop);
            Check.stays("a FULL set of a STEM", before, c -> c.set("t.=1", NameRoom.FULL), first, stop);
            Check.stays("a FULL drop", before, c -> c.drop("s.3 s.2 n1", NameRoom.FULL), first, stop);
        }
    }

    private static void fullBehindOthers() {
        Check c = crowded("LONG, FULL: those ahead are", 99);
        c.drop("s.1 s.2 n1", NameRoom.FULL).count(0, 100).known("s.1", 0).known("s.2", 1).known("n1", 2);
        c.drop("n1 s.2 s.3 n2", NameRoom.FULL).known("n1", 0).known("s.2", 0).known("s.3", 1).known("n2", 2).count(0, 100);
    }

    private static void stemMakesRoom() {
        Check c = new Check("but what a STEM took away");
        c.giveMany("s.", 100).set("x=1", NameRoom.FULL).set("s.=1", 1).name(0, 0, "S.").drop("s.", 0);
        c.giveMany("s.", 1).giveMany("n", 99).set("t.=1", NameRoom.FULL).set("s.=1", 100).set("s.1=1", NameRoom.FULL);
        // within a template what a STEM took away stays taken away, though a later target is FULL
        c.drop("n1", 99).set("s.7=1", 100).subject("1 2 3").parse("s. x y", NameRoom.FULL).count(0, 100).known("s.7", 1);
        c.get("s.7", "1").get("x", "2").known("y", 0);
    }

    private static void inTheOrderTheyCame() {
        Check c = new Check("listed in the order in which they came");
        c.set("b=1", 1).set("s.=2", 2).drop("s.1", 3).set("a=3", 4).open("a", 2).set("b=4", 5).subject("").parse("d c", 2).close(1);
        c.name(0, 0, "B").name(1, 0, "S.").name(2, 0, "S.1").name(3, 0, "A").nameFails(4, NameRoom.NONE);
        c.open("c", 2).set("a=5", 5).set("c=6", 6).set("b=7", 7).name(4, 1, "A").name(5, 0, "C").name(6, 1, "B");
        c.close(1).name(4, 0, "C").nameFails(5, NameRoom.NONE).set("e=8", 6).name(5, 0, "E");
    }

    private static void givenAgainStaysInItsPlace() {
        Check c = new Check("given, or dropped, again stays in its place");
        c.set("a=1", 1).set("s.=2", 2).set("s.1=3", 3).set("b=4", 4).set("a=5", 4).name(0, 0, "A").value(0, "5");
        c.drop("s.1", 4).name(2, 0, "S.1").drop("s.1", 4).name(2, 0, "S.1").set("s.1=6", 4).name(2, 0, "S.1").value(2, "6");
        c.set("s.=7", 3).name(1, 0, "S.").value(1, "7").name(2, 0, "B");
    }

    private static void takenAwayGoes() {
        Check c = new Check("what is taken away goes from it");
        c.set("s.1=1", 1).set("a=2", 2).set("s.2=3", 3).set("b=4", 4).set("s.=5", 3);
        c.name(0, 0, "A").name(1, 0, "B").name(2, 0, "S.").value(0, "2").value(1, "4").value(2, "5");
        c.set("s.1=6", 4).name(3, 0, "S.1").drop("a", 3).name(0, 0, "B").set("a=7", 4).name(3, 0, "A").value(2, "6");
    }

    private static void nameEdges() {
        Check c = new Check("The i-th of the names, from 0 on");
        c.nameFails(0, NameRoom.NONE).nameFails(-1, NameRoom.NONE).set("x=1", 1).name(0, 0, "X").nameFails(1, NameRoom.NONE);
        c.nameFails(-1, NameRoom.NONE).nameFails(Integer.MIN_VALUE, NameRoom.NONE).nameFails(Integer.MAX_VALUE, NameRoom.NONE);
        c.giveMany("n", 98).nameFails(99, NameRoom.NONE).name(98, 0, "N97").set("y=1", 100).name(99, 0, "Y");
        c.nameFails(100, NameRoom.NONE).nameFails(101, NameRoom.NONE).drop("y x", 98).nameFails(98, NameRoom.NONE).name(97, 0, "N97");
        for (int pools = 2; pools <= 8; pools++) {
            c.open("", pools);
        }
        c.set("z=1", 99).name(98, 7, "Z").name(97, 0, "N97");
    }

    private static void valueEdges() {
        Check c = new Check("The VALUE of the i-th of these");
        c.valueFails(0, NameRoom.NONE).valueFails(-1, NameRoom.NONE).set("s.=", 1).value(0, "").valueFails(1, NameRoom.NONE);
        c.valueFails(-1, NameRoom.NONE).valueFails(Integer.MIN_VALUE, NameRoom.NONE).valueFails(Integer.MAX_VALUE, NameRoom.NONE);
        c.drop("s.1", 2).valueFails(1, NameRoom.STATE).valueFails(2, NameRoom.NONE).giveMany("n", 97).valueFails(99, NameRoom.NONE);
        c.set("y=" + "y".repeat(200), 100).value(99, "y".repeat(200)).valueFails(100, NameRoom.NONE).drop("y", 99);
        c.valueFails(99, NameRoom.NONE).value(98, "");
    }

    private static void countEdges() {
        Check c = new Check("NONE for another what");
        c.count(-1, NameRoom.NONE).count(7, NameRoom.NONE).count(8, NameRoom.NONE).count(Integer.MIN_VALUE, NameRoom.NONE);
        c.count(Integer.MAX_VALUE, NameRoom.NONE).count(0, 0).count(1, 1).count(2, 0).count(3, 0).count(4, 0).places(1, 1);
        c.set("s.=12345", 1).drop("s.1", 2).set("x=1", 3).open("x y s.", 2).open("x y", 3).subject("abcdef").parse("'cd' .", 1);
        c.get("q1w2e3r", "Q1W2E3R").count(0, 3).count(1, 3).count(2, 2).count(3, 6).count(4, 7).count(5, 5).count(6, 3);
        c.count(-1, NameRoom.NONE).count(7, NameRoom.NONE).close(2).count(2, 3).close(1).count(2, 0);
    }
}
