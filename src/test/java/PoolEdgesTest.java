import java.util.function.Consumer;

/** The edges of POOLS, a sentence a test: Part II, promises 9 and 10. */
public final class PoolEdgesTest {
    private static final String TEN = "a b c d e f g h i j";
    private static final String ELEVEN = TEN + " k";
    private static final String TWELVE = ELEVEN + " l";

    public static void main(String[] args) {
        outermostAlone();
        atMostEight();
        fullLeavesAll();
        wrongThenFullThenLong();
        atMostTwelve();
        firstByteOfAThirteenth();
        toldTwice();
        toldTwiceByTails();
        twelveInEachOfEight();
        nothingOnTheTape();
        oneBlankBetween();
        workedOutOneByOne();
        eachAsItIsTold();
        stemSoTold();
        stemSeenByItsPool();
        whatThatOneSees();
        seenThroughAll();
        notSeenIsNotThere();
        longInTheNewOne();
        goesWithAllThatIsItsOwn();
        leavesWhatItSaw();
        stateLeavesAll();
        Check.finish();
    }

    private static void outermostAlone() {
        Check c = new Check("at first there is the outermost one alone");
        c.count(1, 1).count(2, 0).close(NameRoom.STATE).count(1, 1).set("x=1", 1).name(0, 0, "X");
    }

    private static Check pools(String title, int size) {
        Check c = new Check(title);
        for (int i = 2; i <= size; i++) {
            c.open("x", i);
        }
        return c.count(1, size);
    }

    private static void atMostEight() {
        pools("POOLS, at most 8", 6).open("", 7).open("", 8).open("", NameRoom.FULL).count(1, 8).close(7);
        Check c = pools("POOLS, at most 8", 8).open("", NameRoom.FULL).open("x", NameRoom.FULL).count(1, 8);
        c.close(7).open("", 8).open("", NameRoom.FULL);
        for (int left = 7; left >= 1; left--) {
            c.close(left).count(1, left);
        }
        c.close(NameRoom.STATE).open("", 2);
    }

    private static void fullLeavesAll() {
        Consumer<Check> before = c -> {
            c.set("x=1", 1).set("s.=2", 2).set("s.1=3", 3).subject("p,q").parse("',' b", 1).get("x", "1");
            for (int i = 2; i <= 8; i++) {
                c.open("x s.", i);
            }
            c.set("own=4", 5);
        };
        Check.stays("FULL (8)", before, c -> c.open("", NameRoom.FULL));
        Check.stays("FULL (8)", before, c -> c.open("x own y", NameRoom.FULL));
        Check.stays("WRONG", before, c -> c.open("x own,", -1005));
    }

    private static void wrongThenFullThenLong() {
        Check c = new Check("WRONG; FULL (8); LONG").set("v=" + "v".repeat(200), 1);
        for (int i = 2; i <= 7; i++) {
            c.open("v", i);
        }
        c.open("v a.v", NameRoom.LONG).open("v a.v,", -1005).open("v", 8).open("v a.v", NameRoom.FULL).open("v a.v,", -1005);
        c.open(TWELVE + " m", -1024).open("1", -1000).count(1, 8).count(2, 1);
    }

    private static void atMostTwelve() {
        new Check("at most 12").open("a", 2).count(2, 1).open("", 3).count(2, 0);
        new Check("at most 12").open(ELEVEN, 2).count(2, 11).set("k=1", 1).name(0, 0, "K").set("l=1", 2).name(1, 1, "L");
        new Check("at most 12").open(TWELVE, 2).count(2, 12).set("l=1", 1).name(0, 0, "L").set("m=1", 2).name(1, 1, "M");
        new Check("at most 12").open(TWELVE + " m", -1024).count(1, 1).count(2, 0);
    }

    private static void firstByteOfAThirteenth() {
        Check c = new Check("also the first byte of a 13th");
        c.open(TWELVE + " m", -1024).open(TWELVE + " mn op", -1024).open(TWELVE + " 1", -1024).open(TWELVE + "  ", -1024);
        c.open(TWELVE + " .", -1024).open(TWELVE + " a", -1024).open(TWELVE + " " + "m".repeat(31), -1024).open(TWELVE + " ", -1024);
        c.open(TWELVE + "1 m", -1025).open(TWELVE + "," + " m", -1023).open("1 " + TWELVE, -1000).open(ELEVEN + " 1 m", -1022);
        c.count(1, 1).open(TWELVE, 2);
    }

    private static void toldTwice() {
        Check c = new Check("told twice is one of them twice, and counts once as seen");
        c.set("a=1", 1).open("a a", 2).count(2, 1).get("a", "1").open("a A", 3).count(2, 1).open("a b a b A B", 4).count(2, 2);
        c.open("a a a a a a a a a a a", 5).count(2, 1).open("a a a a a a a a a a a a", 6).count(2, 1);
        c.open("a a a a a a a a a a a a a", -1024).open(ELEVEN + " a", 7).count(2, 11).open(TWELVE + " a", -1024).count(1, 7);
        c.get("a", "1").set("a=2", 1).name(0, 0, "A");
    }

    private static void toldTwiceByTails() {
        Check c = new Check("told twice by its full name");
        c.set("i=2", 1).open("i s.i s.2 S.I", 2).count(2, 2).close(1).open("s.i i s.i", 2).count(2, 3).set("s.I=1", 2).name(1, 0, "S.2");
        // a STEM and what begins with it are two that are told
        c.close(1).open("s. s.1", 2).count(2, 2).open("s.1 s.", 3).count(2, 2);
    }

    private static void twelveInEachOfEight() {
        Check c = new Check("12 names in each of 8 POOLS");
        for (int i = 2; i <= 8; i++) {
            c.open(TWELVE, i).count(2, 12);
        }
        c.set("a=1", 1).name(0, 0, "A").set("l=2", 2).name(1, 0, "L").set("m=3", 3).name(2, 7, "M");
        c.close(7).open("l m", 8).count(2, 2).get("l", "2").known("a", 0).set("m=4", 3).name(2, 6, "M").close(7).count(2, 12);
    }

    private static void nothingOnTheTape() {
        Check c = new Check("The tape is nothing");
        c.set("x=1", 1).set("s.=2", 2).open("", 2).count(2, 0).known("x", 0).known("s.", 0).known("s.1", 0).get("x", "X");
    }

    private static void oneBlankBetween() {
        Check c = new Check("VARIABLES with one blank between");
        c.open(" ", -1000).open("  ", -1000).open(" a", -1000).open("a ", -1002).open("a  b", -1002).open("a\tb", -1001);
        c.open("a,b", -1001).open("a=b", -1001).open("a b ", -1004).open("a b  c", -1004).open("(a)", -1000).count(1, 1);
        c.open("a", 2).open("a b", 3).count(2, 2);
    }

    private static void workedOutOneByOne() {
        Check c = new Check("worked out one by one in the new one as it sees them by then");
        c.set("i=1", 1).set("s.1=one", 2).set("s.I=letter", 2).open("i s.i", 2).get("s.1", "letter").known("s.i", 2).close(1);
        // ahead of it the new one does not see i: the name is S.I itself
        c.set("s.1=one", 2).open("s.i i", 2).known("s.1", 0).get("s.i", "S.1").set("s.1=own", 3).name(2, 1, "S.1").close(1);
        c.open("s.i", 2).known("s.i", 0).set("s.i=seen", 3).name(2, 0, "S.I").close(1);
        // all those ahead are seen by then, not the last one alone
        c.set("j=1", 4).open("j x s.j", 2).count(2, 3).get("s.j", "one").get("s.1", "one");
    }

    private static void eachAsItIsTold() {
        Check c = new Check("each as it is told");
        c.set("s=0", 1).set("s.=1", 2).set("s.1=2", 3).set("s.1.1=3", 4);
        c.open("s", 2).get("s", "0").known("s.", 0).known("s.1", 0).close(1);
        c.open("s.1", 2).get("s.1", "2").known("s.1.1", 0).known("s.", 0).known("s", 0).known("s.2", 0).known("s.1.", 0).close(1);
        c.open("s.1.", 2).known("s.1.1", 0).known("s.1", 0).known("s.1.", 1).close(1);
        c.open("s..", 2).known("s..", 1).known("s...", 0).known("s..1", 0).known("s.", 0);
    }

    private static void stemSoTold() {
        Check c = new Check("a STEM so told: it and all that begins with it");
        c.set("s=0", 1).set("s.=1", 2).set("s.1=2", 3).set("s..=3", 4).set("sa.=4", 5).set("sa.1=5", 6).open("s.", 2).count(2, 1);
        c.get("s.", "1").get("s.1", "2").get("s..", "3").known("s.1.1", 1).known("s", 0).known("sa.", 0).known("sa.1", 0);
        c.set("s.9=9", 7).name(6, 0, "S.9").set("s.a.b=9", 8).name(7, 0, "S.A.B").set("s=own", 9).name(8, 1, "S").drop("s.", 4);
        c.name(0, 0, "S").name(1, 0, "SA.").name(2, 0, "SA.1").name(3, 1, "S").close(1).known("s.1", 0).known("s", 2);

        Check empty = new Check("a STEM so told by a tail of no bytes");
        empty.set("e=", 1).open("e s.e", 2).count(2, 2).set("s.1=1", 2).name(1, 0, "S.1").set("s.=1", 2).name(1, 0, "S.");
    }

    private static void stemSeenByItsPool() {
        Check c = new Check("its STEM as it is seen by the same POOL in which the COMPOUND one is");
        c.set("s.=out", 1).open("s.1", 2).get("s.1", "out").known("s.2", 0).set("s.=in", 2).get("s.1", "out").get("s.2", "in");
        c.open("s.2", 3).get("s.2", "in").known("s.1", 0).set("s.=deep", 3).get("s.2", "in").get("s.1", "deep").close(2);
        c.open("s.", 3).get("s.1", "out").get("s.2", "in").close(2).close(1).open("s.", 2).open("s.1", 3).get("s.1", "out");
        c.known("s.2", 0).close(2).close(1).drop("s.", 0).open("s.1", 2).set("s.=in", 1).known("s.1", 0).known("s.2", 1);
    }

    private static void whatThatOneSees() {
        Check c = new Check("What it sees is the other one's (or what that one sees)");
        c.open("x", 2).open("x y", 3).open("x y z", 4).set("x=1", 1).set("y=2", 2).set("z=3", 3).set("w=4", 4);
        c.name(0, 0, "X").name(1, 1, "Y").name(2, 2, "Z").name(3, 3, "W").close(3).known("w", 0).get("z", "3").close(2);
        c.known("z", 0).get("y", "2").close(1).known("y", 0).get("x", "1").count(0, 1);
    }

    private static void seenThroughAll() {
        Check c = new Check("seen through 8 POOLS");
        c.set("x=1", 1).set("s.=2", 2);
        for (int i = 2; i <= 8; i++) {
            c.open("x s.", i);
        }
        c.get("x", "1").get("s.5", "2").set("x=3", 2).set("s.5=4", 3).name(2, 0, "S.5").drop("s.6", 4).name(3, 0, "S.6").drop("x", 3);
        for (int i = 7; i >= 1; i--) {
            c.close(i).known("x", 0).known("s.5", 2).known("s.6", 0);
        }
    }

    private static void notSeenIsNotThere() {
        Check c = new Check("seen by the inner one, not by that between");
        c.set("x=0", 1).open("", 2).open("x", 3).known("x", 0).set("x=2", 2).name(1, 1, "X").close(2).get("x", "2").close(1);
        c.get("x", "0").count(0, 1).open("x", 2).open("", 3).known("x", 0).set("x=3", 2).name(1, 2, "X").drop("x", 1).known("x", 0);
        c.close(2).get("x", "0");
    }

    private static void longInTheNewOne() {
        Check c = new Check("LONG; nothing comes then");
        c.set("v=" + "v".repeat(198), 1).open("v a.v", 2).count(2, 2).close(1).open("v ab.v", NameRoom.LONG).count(1, 1);
        // where the new one does not see v, ab.v is itself
        c.open("ab.v v", 2).count(2, 2).open("b v ab.v c", NameRoom.LONG).count(1, 2).count(2, 2).open("b", 3).count(2, 1);
        c.known("v", 0).known("c", 0).set("v=1", 2).name(1, 2, "V");
    }

    private static void goesWithAllThatIsItsOwn() {
        Check c = new Check("THE POOL goes with all that is its own");
        c.set("x=1", 1).set("s.=2", 2).open("", 2).set("x=3", 3).set("s.=4", 4).set("s.1=5", 5).drop("s.2", 6).close(1);
        c.count(0, 2).get("x", "1").get("s.1", "2").get("s.2", "2").name(0, 0, "X").name(1, 0, "S.").nameFails(2, NameRoom.NONE);
        c.open("", 2).known("x", 0).known("s.1", 0).drop("s.2", 2);
    }

    private static void leavesWhatItSaw() {
        Check c = new Check("what is not its own stays");
        c.set("x=1", 1).open("x y s.", 2).set("x=2", 1).set("y=3", 2).set("s.1=4", 3).set("own=5", 4).close(1).count(0, 3);
        c.get("x", "2").get("y", "3").get("s.1", "4").known("own", 0);
    }

    private static void stateLeavesAll() {
        Consumer<Check> before = c -> c.set("x=1", 1).set("s.=2", 2).drop("s.1", 3).subject("p,q").parse("',' b", 1).get("x", "1");
        Check.stays("STATE if there is one alone", before, c -> c.close(NameRoom.STATE));
        Check.stays("open and close", before, c -> c.open("", 2).set("x=2", 5).set("s.=3", 6).drop("s.1", 7).close(1));
    }
}
