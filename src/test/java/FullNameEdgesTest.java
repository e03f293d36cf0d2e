import java.util.function.Consumer;

/** The edges of full names, a sentence a test: COMPOUND ones, STEMS, TAILS and LONG of Part I. */
public final class FullNameEdgesTest {
    public static void main(String[] args) {
        compoundOrNot();
        stemOrNot();
        digitsTails();
        emptyTails();
        tailsWithoutValue();
        tailsWithValue();
        emptyValues();
        tailsInThePool();
        longByValue();
        longByPeriod();
        longByTailItself();
        longTails();
        longEverywhere();
        longLeavesAll();
        longBehindOthers();
        Check.finish();
    }

    private static void compoundOrNot() {
        Check c = new Check("a . that is not its last byte");
        c.set("b=5", 1).set("a.=stem", 2).known("a", 0).known("a.", 2).known("a..", 1).known("a.b", 1).known("a.b.", 1);
        c.known("ab", 0).known("a_", 0).get("a", "A").get("a.", "stem").drop("a", 2).drop("a..", 3).valueFails(2, NameRoom.STATE);
    }

    private static void stemOrNot() {
        Check c = new Check("a VARIABLE whose only . is its last byte");
        c.set("a=0", 1).set("a.1=1", 2).set("a.1.=2", 3).set("a.1.2=3", 4).set("a..=4", 5).set("a..1=5", 6).set("ab.=6", 7);
        c.set("a.1.=7", 7).set("a..=8", 7).set("a=9", 7).set("ab=0", 8).known("a.1.2", 2).known("a..1", 2);
        c.set("a.=stem", 4).name(0, 0, "A").name(1, 0, "AB.").name(2, 0, "AB").name(3, 0, "A.");
    }

    private static void digitsTails() {
        Check c = new Check("begins with a digit: itself");
        c.set("x=7", 1).set("_0=8", 2).get("a.0", "A.0").get("a.9", "A.9").get("a.0x", "A.0X").get("a.9x.x", "A.9X.7");
        c.get("a.x9", "A.X9").get("a._0", "A.8").get("a.0_0", "A.0_0").get("a.x.0.x", "A.7.0.7");
    }

    private static void emptyTails() {
        Check c = new Check("it is empty: itself");
        c.set("x=7", 1).get("a..", "A..").get("a...", "A...").get("a..x", "A..7").get("a.x.", "A.7.").get("a.x..x", "A.7..7");
        c.get("a.", "A.").get("x.", "X.").get("x.x", "X.7").get("x", "7");
    }

    private static void tailsWithoutValue() {
        Check c = new Check("if it has none: itself");
        c.get("a.x", "A.X").set("x=1", 1).get("a.x", "A.1").drop("x", 0).get("a.x", "A.X");
        // a tail is no COMPOUND one: neither a STEM's VALUE nor another COMPOUND one's is told by it
        c.set("x.=2", 1).set("x.y=3", 2).get("a.x", "A.X").get("a.x.y", "A.X.Y").get("a.!", "A.!").get("a.?_", "A.?_");
    }

    private static void tailsWithValue() {
        Check c = new Check("as the VALUE that it tells");
        c.set("x=a b", 1).get("a.x", "A.a b").set("x=.", 1).get("a.x", "A..").get("a.x.x", "A....").set("x=y", 1);
        c.set("y=z", 2).get("a.x", "A.y").get("a.x.y", "A.y.z").set("x=\0\u00FF", 2).get("a.x", "A.\0\u00FF");
        // small letters of a VALUE stay small
        c.set("x=q", 2).set("a.x=1", 3).known("a.q", 0).known("a.x", 2).set("x=Q", 3).known("a.x", 0).set("a.q=2", 4);
        c.known("a.x", 2).name(2, 0, "A.q").name(3, 0, "A.Q");
    }

    private static void emptyValues() {
        Check c = new Check("a VALUE of no bytes is one");
        c.set("x=", 1).get("b.x.1", "B..1").get("b.1.x", "B.1.").get("b.x.x", "B..").get("b.x", "B.");
        c.set("b.1=1", 2).set("b.x=2", 2).name(1, 0, "B.").known("b.1", 1).drop("b.1", 3).drop("b.x", 1).count(0, 1);
    }

    private static void tailsInThePool() {
        Check c = new Check("as a VARIABLE in the POOL");
        c.set("x=1", 1).open("", 2).get("a.x", "A.X").set("x=2", 2).get("a.x", "A.2").open("x", 3).get("a.x", "A.2");
        c.open("", 4).get("a.x", "A.X").close(3).close(2).close(1).get("a.x", "A.1");
    }

    private static Check with(int size) {
        return new Check("of more than 200 bytes it is LONG").set("v=" + "v".repeat(size), 1).set("w=" + "w".repeat(90), 2);
    }

    private static void longByValue() {
        with(197).get("a.v", "A." + "v".repeat(197)).get("ab.v", "AB." + "v".repeat(197)).getFails("abc.v", NameRoom.LONG);
        with(198).get("a.v", "A." + "v".repeat(198)).getFails("ab.v", NameRoom.LONG).getFails("a.1.v", NameRoom.LONG);
        with(199).getFails("a.v", NameRoom.LONG).getFails("a.x.v", NameRoom.LONG).getFails("a.v.x", NameRoom.LONG);
        with(200).getFails("a.v", NameRoom.LONG).getFails("a..v", NameRoom.LONG);
        with(106).getFails("a.v.w", 199).getFails("a.w.v", 199);
        with(107).getFails("a.v.w", 200).getFails("a.w.v", 200).getFails("aa.w.v", NameRoom.LONG);
        with(108).getFails("a.v.w", NameRoom.LONG).getFails("a.w.v", NameRoom.LONG);
    }

    private static void longByPeriod() {
        with(196).getFails("a.v.", 199).getFails("a.v..", 200).getFails("a.v...", NameRoom.LONG);
        with(197).getFails("a.v.", 200).getFails("a.v..", NameRoom.LONG);
        with(198).getFails("a.v", 200).getFails("a.v.", NameRoom.LONG);
    }

    private static void longByTailItself() {
        with(196).getFails("a.v.1", 200).getFails("a.v.12", NameRoom.LONG).getFails("a.v.z", 200).getFails("a.v.zz", NameRoom.LONG);
        with(197).getFails("a.v.1", NameRoom.LONG).getFails("a.v.z", NameRoom.LONG).getFails("a.1.v", NameRoom.LONG);
        with(195).getFails("a.v.12", 200).getFails("a.v.123", NameRoom.LONG).getFails("a.v.1.", 200).getFails("a.1.v", 199);
    }

    private static void longTails() {
        Check c = with(200);
        // a VARIABLE's VALUE may be as long as any, its name is short
        c.getFails("v", 200).known("v", 2).set("v.=" + "s".repeat(200), 3).getFails("v.1", 200).known("v.1", 1);
        c.getFails("a.v.v.v.v.v.v.v.v.v.v.v.v.v.v", NameRoom.LONG).getFails("v.v", NameRoom.LONG).drop("v", 2).known("v.v", 1);
    }

    private static void longEverywhere() {
        Check c = with(198);
        c.set("a.v=1", 3).known("a.v", 2).drop("a.v", 2).open("v a.v", 2).count(2, 2).set("a.v=2", 3).close(1).known("a.v", 2);
        c.set("ab.v=1", NameRoom.LONG).getFails("ab.v", NameRoom.LONG).known("ab.v", NameRoom.LONG).drop("ab.v", NameRoom.LONG);
        c.open("v ab.v", NameRoom.LONG).subject("1 2").parse("a.v", 1).parse("(a.v)", 0).parse("ab.v", NameRoom.LONG);
        c.parse("(ab.v)", NameRoom.LONG).count(0, 3).known("a.v", 2).name(2, 0, "A." + "v".repeat(198)).value(2, "1 2");
    }

    private static void longLeavesAll() {
        Consumer<Check> before = c -> c.set("v=" + "v".repeat(120), 1).set("s.=2", 2).drop("s.2", 3).subject("p,q")
                .parse("b ',' c", 2).get("s.9", "2").open("v s.", 2).set("own=4", 6);
        Check.stays("a LONG set", before, c -> c.set("s.v.v=1", NameRoom.LONG));
        Check.stays("a LONG get", before, c -> c.getFails("s.v.v", NameRoom.LONG));
        Check.stays("a LONG known", before, c -> c.known("s.v.v", NameRoom.LONG));
        Check.stays("a LONG drop", before, c -> c.drop("s.v.v own", NameRoom.LONG));
        Check.stays("a LONG open", before, c -> c.open("own s. v s.v.v", NameRoom.LONG));
    }

    private static void longBehindOthers() {
        Check c = with(200);
        c.set("x=1", 3).set("y=2", 4).set("z=3", 5).drop("x a.v y z", NameRoom.LONG).known("x", 0).known("y", 2).count(0, 4);
        c.drop("y z a.v", NameRoom.LONG).count(0, 2).drop("a.v w", NameRoom.LONG).count(0, 2);
        // once the tail's VALUE is dropped, the name is no more LONG
        c.drop("v a.v w", 0);
    }
}
