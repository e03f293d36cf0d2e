/** Promises 1 to 4: a new object, feed, end, out. */
public final class TapeTest {
    public static void main(String[] args) {
        newObject();
        feedAndEnd();
        tapeIsTakenUp();
        out();
        Check.finish();
    }

    private static void newObject() {
        Check c = new Check("new object");
        c.count(0, 0).count(1, 1).count(2, 0).count(3, 0).count(4, 0).places(1, 1);
        c.count(7, NameRoom.NONE).count(-1, NameRoom.NONE);
        c.count(Integer.MIN_VALUE, NameRoom.NONE).count(Integer.MAX_VALUE, NameRoom.NONE);
        c.due("out 0", c.out(0), NameRoom.NONE);
        c.due("end 1", c.end(1), NameRoom.NONE);
        c.due("end 0", c.end(0), 0);
        c.due("name 0", c.name(0), NameRoom.NONE);
        c.due("value 0", c.value(0), NameRoom.NONE);
        c.due("close", c.close(), NameRoom.STATE);
    }

    private static void feedAndEnd() {
        Check c = new Check("feed");
        for (int i = 1; i <= 30; i++) {
            c.due("feed", c.feed(0x41424344, 0x45464748, 0x494A4B4C, 0x4D4E4F50, 0x51525354), 20 * i);
        }
        c.due("feed the 31st", c.feed(1, 2, 3, 4, 5), NameRoom.FULL);
        c.due("end 601", c.end(601), NameRoom.NONE);
        c.due("end -1", c.end(-1), NameRoom.NONE);
        c.due("end least", c.end(Integer.MIN_VALUE), NameRoom.NONE);
        c.due("end most", c.end(Integer.MAX_VALUE), NameRoom.NONE);
        c.due("end 600", c.end(600), 600);
        c.due("end 581", c.end(581), 581);
        c.due("feed to 601", c.feed(0, 0, 0, 0, 0), NameRoom.FULL);
        c.due("end 580", c.end(580), 580);
        c.due("feed to 600", c.feed(0, 0, 0, 0, 0), 600);
        c.due("end 21", c.end(21), 21);
        c.due("end 22", c.end(22), NameRoom.NONE);
        c.due("get", c.get(), 21);
        c.due("order of bytes", c.out(), "ABCDEFGHIJKLMNOPQRSTA");

        Check all = new Check("bytes");
        all.tape("x=").feed(0x00FF8001, 0x7F20FE0A, -1, 0, Integer.MIN_VALUE);
        all.due("end", all.end(22), 22);
        all.due("set", all.set(), 1);
        all.get("X", "\u0000\u00FF\u0080\u0001\u007F\u0020\u00FE\n\u00FF\u00FF\u00FF\u00FF\0\0\0\0\u0080\0\0\0");
    }

    private static void tapeIsTakenUp() {
        Check c = new Check("tape taken up");
        String wrong = "=";
        c.set(wrong, -1000).due("end behind set", c.end(1), NameRoom.NONE);
        c.getFails(wrong, -1000).due("end behind get", c.end(1), NameRoom.NONE);
        c.known(wrong, -1000).due("end behind known", c.end(1), NameRoom.NONE);
        c.drop(wrong, -1000).due("end behind drop", c.end(1), NameRoom.NONE);
        c.open(wrong, -1000).due("end behind open", c.end(1), NameRoom.NONE);
        c.parse(wrong, -1001).due("end behind parse", c.end(1), NameRoom.NONE);
        c.due("subject", c.tape("y".repeat(201)).subject(true), NameRoom.FULL);
        c.due("end behind subject", c.end(1), NameRoom.NONE);

        Check rest = new Check("tape left");
        rest.tape("x=1").close();
        rest.name(0);
        rest.value(0);
        rest.count(0);
        rest.out(0);
        rest.due("set", rest.set(), 1);
    }

    private static void out() {
        Check c = new Check("out");
        c.set("x=\u00FFb", 1).get("x", "\u00FFb");
        c.due("out 0", c.out(0), 255);
        c.due("out 1", c.out(1), 98);
        c.due("out 2", c.out(2), NameRoom.NONE);
        c.due("out -1", c.out(-1), NameRoom.NONE);
        c.due("out least", c.out(Integer.MIN_VALUE), NameRoom.NONE);
        c.due("out most", c.out(Integer.MAX_VALUE), NameRoom.NONE);
        c.getFails("1", -1000);
        c.due("name 9", c.name(9), NameRoom.NONE);
        c.due("value 9", c.value(9), NameRoom.NONE);
        c.due("out stays", c.out(), "\u00FFb");
        c.name(0, 0, "X").value(0, "\u00FFb");
        c.set("e=", 2).get("e", "").count(4, 0);
        c.due("out of nothing", c.out(0), NameRoom.NONE);
    }
}
