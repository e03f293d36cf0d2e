/** Promises 9 and 10: open and close, and the pools of name and count. */
public final class PoolsTest {
    private static final String THIRTY = "abcdefghijklmnopqrstuvwxyz!?_.";

    public static void main(String[] args) {
        seesNothing();
        seesNames();
        seesStems();
        seesCompounds();
        workedOutInTheNewOne();
        throughSeveral();
        texts();
        limits();
        Check.finish();
    }

    private static void seesNothing() {
        Check c = new Check("sees nothing");
        c.set("x=outer", 1).open("", 2).count(1, 2).count(2, 0).known("x", 0).set("x=inner", 2).get("x", "inner");
        c.name(0, 0, "X").name(1, 1, "X").value(0, "outer").value(1, "inner");
        c.drop("x", 1).known("x", 0).set("x=again", 2).close(1).count(0, 1).get("x", "outer").close(NameRoom.STATE);
        c.open("", 2).known("x", 0);

        Check alone = new Check("closes alone");
        alone.open("", 2).set("x=1", 1).set("s.=1", 2).drop("s.1", 3).close(1).count(0, 0).known("x", 0).known("s.1", 0);
    }

    private static void seesNames() {
        Check c = new Check("sees names");
        c.set("x=1", 1).set("z=0", 2).open("x y", 2).count(2, 2).get("x", "1").known("z", 0);
        c.set("x=2", 2).set("y=new", 3).set("z=own", 4).name(2, 0, "Y").name(3, 1, "Z");
        c.known("x.1", 0).known("xx", 0).drop("x", 3).close(1).known("x", 0).get("y", "new").get("z", "0").count(0, 2);
        // what was the closed pool's is not seen by the next one
        c.open("z", 2).known("y", 0).set("y=mine", 3).count(2, 1).close(1).get("y", "new");
    }

    private static void seesStems() {
        Check c = new Check("sees stems");
        c.set("s.=all", 1).set("s.1=one", 2).open("s.", 2).count(2, 1);
        c.get("s.1", "one").get("s.2", "all").known("s.2", 1).set("s.3=three", 3).name(2, 0, "S.3").known("s", 0);
        c.drop("s.1", 3).known("s.1", 0).set("s.=new", 1).name(0, 0, "S.").close(1).get("s.1", "new").count(0, 1);
        c.open("s. s.1 S.", 2).count(2, 2).drop("s.1", 2).name(1, 0, "S.1").drop("s.", 0).close(1).known("s.", 0);
    }

    private static void seesCompounds() {
        Check c = new Check("sees compounds");
        c.set("s.=outer", 1).open("s.1", 2).count(2, 1);
        // the compound's stem is that of the pool in which the compound is
        c.get("s.1", "outer").known("s.1", 1).known("s.2", 0).known("s.", 0);
        c.set("s.=inner", 2).get("s.1", "outer").get("s.2", "inner").set("s.1=own", 3).name(2, 0, "S.1");
        // the inner stem takes away in its own pool alone
        c.set("s.2=two", 4).set("s.=again", 3).get("s.1", "own").get("s.2", "again");
        c.drop("s.1", 3).known("s.1", 0);
        c.due("value", c.value(2), NameRoom.STATE);
        c.drop("s.", 2).known("s.1", 0).close(1).known("s.1", 0).known("s.2", 1).drop("s.", 0);
        c.open("s.1", 2).set("s.=inner", 1).set("s.1=x", 2).drop("s.1", 1).known("s.1", 0).known("s.2", 1);
    }

    private static void workedOutInTheNewOne() {
        Check c = new Check("worked out in the new one");
        c.set("i=2", 1).set("a.2=two", 2).set("a.i=TWO", 2).open("i a.i", 2).count(2, 2).get("a.2", "TWO").get("a.i", "TWO");
        c.close(1).open("a.i i", 2).count(2, 2).known("a.2", 0).get("a.i", "A.2");
        c.set("i=i", 2).get("a.i", "A.i").set("i=I", 2).known("a.i", 0).set("a.i=seen", 3).name(2, 0, "A.I");
        c.close(1).set("i=2", 3).open("i a.i a.2", 2).count(2, 2).get("a.2", "TWO");
        c.close(1).set("e=", 4).open("e b.e", 2).set("b.7=seen", 5).name(4, 0, "B.7");
    }

    private static void throughSeveral() {
        Check c = new Check("through several");
        c.set("x=0", 1).open("x", 2).open("x", 3).open("x", 4).set("x=3", 1).name(0, 0, "X");
        c.close(3).close(2).close(1).get("x", "3");
        c.open("", 2).open("x", 3).set("x=one", 2).name(1, 1, "X").open("x", 4).get("x", "one");
        c.open("y", 5).known("x", 0).set("y=3", 3).name(2, 3, "Y").set("x=4", 4).name(3, 4, "X");
        c.close(4).get("x", "one").get("y", "3").close(3).known("y", 0).close(2).get("x", "one").close(1).get("x", "3");
    }

    private static void texts() {
        Check c = new Check("open texts");
        c.open(" ", -1000).open("a ", -1002).open("a  b", -1002).open("a=b", -1001).open("1", -1000).open("a .b", -1002);
        c.open("a " + THIRTY + "x", -1032).open("a b\0", -1003).count(1, 1);
        String twelve = "a b c d e f g h i j k l";
        c.open(twelve + " m", -1024).open(twelve + " 1", -1024).open(twelve + " ", -1024).open(twelve + ",", -1023);
        c.open(twelve, 2).count(2, 12).open("a a a a a a a a a a a a a", -1024).open("a A a A a a a a a a a a", 3).count(2, 1);
    }

    private static void limits() {
        Check c = new Check("pool limits");
        c.set("v=" + "v".repeat(200), 1);
        for (int i = 2; i <= 8; i++) {
            c.open("v a b c d e f g h i j k", i).count(2, 12);
        }
        c.open("", NameRoom.FULL).open("v a.v", NameRoom.FULL).open("1", -1000).count(1, 8).count(2, 12);
        c.set("k=deep", 2).name(1, 0, "K").set("l=own", 3).name(2, 7, "L");
        c.close(7).count(0, 2).count(2, 12).open("v a.v", NameRoom.LONG).count(1, 7).count(2, 12).open("", 8);
    }
}
