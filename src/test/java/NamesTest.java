/** Promises 5 to 8 and 13 to 15: set, get, known, drop, name, value, count. */
public final class NamesTest {
    private static final String THIRTY = "abcdefghijklmnopqrstuvwxyz!?_.";

    public static void main(String[] args) {
        symbols();
        values();
        fullNames();
        emptyTails();
        longNames();
        stems();
        drops();
        dropTexts();
        order();
        full();
        Check.finish();
    }

    private static void symbols() {
        Check c = new Check("symbols");
        c.set("", -1000).set("=1", -1000).set("1=1", -1000).set(".=1", -1000).set(".a=1", -1000);
        c.set("a", -1001).set("a =1", -1001).set("a b=1", -1001).set("a,=1", -1001).set("a\0=1", -1001);
        c.set("a\u00E4=1", -1001).set("\u00E4=1", -1000).set("a@=1", -1001).set("a[=1", -1001).set("a`=", -1001);
        c.set("a{=1", -1001).set("a/=1", -1001).set("a:=1", -1001).set("a^=1", -1001);
        c.set(THIRTY + "=1", 1).set(THIRTY + "x=1", -1030).set(THIRTY + "+", -1030).set(THIRTY, -1030);
        c.set("9" + THIRTY + "=1", -1000);
        c.set("?=1", 2).set("!=1", 3).set("_=1", 4).set("zZ9!?_=1", 5).set("AZaz09=1", 6);
        c.name(4, 0, "ZZ9!?_").name(5, 0, "AZAZ09").name(0, 0, "ABCDEFGHIJKLMNOPQRSTUVWXYZ!?_.");
        c.getFails("", -1000).getFails("x ", -1001).getFails("x y", -1001).getFails("3", -1000).getFails(".", -1000);
        c.getFails(THIRTY + "a", -1030).get(THIRTY, "1");
        c.known("", -1000).known("x=", -1001).known("7x", -1000).known(THIRTY + "a", -1030).known("xyz", 0);
        c.count(0, 6);
    }

    private static void values() {
        Check c = new Check("values");
        String most = "v".repeat(200);
        c.set("x=" + most, 1).get("x", most);
        c.set("x=" + most + "v", -1202).set("abc=" + "w".repeat(300), -1204).get("x", most);
        c.set("x=a=b ", 1).get("X", "a=b ").value(0, "a=b ");
        c.set("x=", 1).get("x", "").known("x", 2).value(0, "");
        c.get("y", "Y").get("yOu", "YOU");
    }

    private static void fullNames() {
        Check c = new Check("full names");
        c.get("a.i", "A.I").get("a..", "A..").get("a..b", "A..B").get("a.1.", "A.1.").get("a.1x.y", "A.1X.Y");
        c.set("i=2", 1).set("j=x y", 2).get("a.i", "A.2").get("a.i.j", "A.2.x y").get("i.i", "I.2");
        c.get("a.i.", "A.2.").get("a..i", "A..2").get("a.1i.i", "A.1I.2").get("a.k.i.k", "A.K.2.K").get("a.J", "A.x y");
        c.set("a.i.j=hit", 3).get("a.2.j", "hit").set("j=1.1", 3).set("a.1.1=dots", 4).get("a.j", "dots");
        c.set("j=a", 4).get("b.j", "B.a").set("b.j=small", 5).get("b.a", "B.A");
        c.set("b.=stem", 5).get("b.a", "stem").known("b.", 2).name(4, 0, "B.");
        // a tail never tells a stem's or a compound's value
        c.set("k.=9", 6).get("a.k", "A.K").get("a.k.1", "A.K.1");
    }

    private static void emptyTails() {
        Check c = new Check("empty tails");
        c.set("e=", 1).get("a.e", "A.").get("a.e.e", "A..").get("a.1.e", "A.1.");
        c.set("a.1=one", 2).set("a.e.e=pair", 3).known("a..", 2);
        c.set("a.e=stem", 2).known("a.", 2).known("a.7", 1).get("a.7", "stem");
        c.drop("a.7", 3).drop("a.e", 1).get("a.7", "A.7");
    }

    private static void longNames() {
        Check c = new Check("long names");
        c.set("v=" + "v".repeat(198), 1).get("a.v", "A." + "v".repeat(198));
        c.getFails("ab.v", NameRoom.LONG).known("ab.v", NameRoom.LONG).set("ab.v=1", NameRoom.LONG);
        c.getFails("a.v.", NameRoom.LONG).getFails("a.v.1", NameRoom.LONG).getFails("a.v.v.v.v.v.v", NameRoom.LONG);
        c.getFails("a.1.v", NameRoom.LONG).getFails("a..v", NameRoom.LONG);
        c.set("a.v=edge", 2).get("a.v", "edge").name(1, 0, "A." + "v".repeat(198));
        c.due("set wrong before long", c.tape("ab.v=" + "x".repeat(201)).set(), -1205);
        c.set("x=1", 3).set("y=1", 4);
        c.drop("x ab.v y", NameRoom.LONG).known("x", 0).known("y", 2).count(0, 3);
        c.open("ab.v", 2).close(1).open("v ab.v", NameRoom.LONG).count(1, 1).count(2, 0);
    }

    private static void stems() {
        Check c = new Check("stems");
        c.set("s=plain", 1).set("s.1=one", 2).set("s.2=two", 3).set("sa.1=other", 4).known("s.3", 0);
        c.set("s.=all", 3).get("s.1", "all").known("s.1", 1).known("s.", 2).get("s", "plain").get("sa.1", "other");
        c.set("s.1=new", 4).known("s.1", 2).get("s.1", "new").get("s.1.1", "all");
        c.set("s..=dots", 5).known("s..", 2).known("s...", 1);
        c.set("s.=more", 3).get("s.1", "more").get("s..", "more").known("s", 2);
        c.name(0, 0, "S").name(1, 0, "SA.1").name(2, 0, "S.");
    }

    private static void drops() {
        Check c = new Check("drops");
        c.set("s.1=one", 1).drop("s.1", 0).known("s.1", 0).drop("s.1", 0).drop("x", 0).drop("s.", 0);
        c.set("s.=all", 1).set("s.1=one", 2).set("x=1", 3);
        c.drop("s.1", 3).known("s.1", 0).get("s.1", "S.1").name(1, 0, "S.1");
        c.due("value", c.value(1), NameRoom.STATE);
        c.due("out stays", c.out(), "S.1");
        c.drop("s.1", 3).set("s.1=again", 3).name(1, 0, "S.1").value(1, "again").known("s.1", 2);
        c.drop("s.2", 4).known("s.2", 0).known("s.3", 1).name(3, 0, "S.2");
        c.drop("s.", 1).known("s.", 0).known("s.1", 0).known("s.3", 0).name(0, 0, "X").get("s.1", "S.1");
        c.set("s.=back", 2).known("s.2", 1).drop("s.2", 3).set("s.=next", 2).known("s.2", 1);
        c.set("i=5", 3).set("a.5=x", 4).set("a.i=y", 4).set("a.I.i=z", 5);
        // from the left: the name is worked out when its turn comes
        c.drop("i a.i", 4).known("a.5", 2).drop("a.5 x", 2);
    }

    private static void dropTexts() {
        Check c = new Check("drop texts");
        c.set("a=1", 1).set("b=1", 2);
        c.drop("", -1000).drop(" a", -1000).drop("a ", -1002).drop("a  b", -1002).drop("a,b", -1001).drop("a 1", -1002);
        c.drop("a b .", -1004).drop("a " + THIRTY + "x", -1032).drop("a b\0", -1003).count(0, 2);
        c.drop("A b a", 0);
        StringBuilder many = new StringBuilder("a");
        for (int i = 1; i < 300; i++) {
            many.append(i < 299 ? " a" : " b");
        }
        c.set("b=1", 1).drop(many.toString(), 0).drop(many + " ", -1600);
    }

    private static void order() {
        Check c = new Check("order");
        c.set("a=1", 1).set("s.=2", 2).set("b=3", 3).set("s.1=4", 4).set("c=5", 5).set("a=6", 5).set("s.=7", 4);
        c.name(0, 0, "A").name(1, 0, "S.").name(2, 0, "B").name(3, 0, "C").value(0, "6").value(1, "7").value(3, "5");
        c.drop("a", 3).set("a=8", 4).name(0, 0, "S.").name(3, 0, "A");
        c.due("name 4", c.name(4), NameRoom.NONE);
        c.due("name -1", c.name(-1), NameRoom.NONE);
        c.due("name least", c.name(Integer.MIN_VALUE), NameRoom.NONE);
        c.due("name most", c.name(Integer.MAX_VALUE), NameRoom.NONE);
        c.due("value 4", c.value(4), NameRoom.NONE);
        c.due("value -1", c.value(-1), NameRoom.NONE);
        c.due("value 100", c.value(100), NameRoom.NONE);
        c.due("value most", c.value(Integer.MAX_VALUE), NameRoom.NONE);
    }

    private static void full() {
        Check c = new Check("full");
        c.set("t.=t", 1);
        for (int i = 1; i < 100; i++) {
            c.due("set", c.tape("s." + i + "=v").set(), i + 1);
        }
        c.set("x=1", NameRoom.FULL).set("t.1=1", NameRoom.FULL).drop("s.99 t.1 s.98", 99);
        c.set("s.99=v", 100).drop("s.1 t.1 t.2 t.3 s.97", NameRoom.FULL).known("s.97", 2).count(0, 100);
        c.known("s.1", 0).known("t.2", 0).known("t.3", 1).drop("t.1", 100);
        c.set("s.7=new", 100).set("t.1=new", 100).set("u.=1", NameRoom.FULL).known("u.", 0);
        c.open("", 2).set("y=1", NameRoom.FULL).count(0, 100).close(1).set("t.=new", 98).name(0, 0, "T.");
        c.set("s.=stem", 2).name(0, 0, "T.").name(1, 0, "S.").known("s.7", 1);
    }
}
