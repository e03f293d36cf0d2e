/** Promises 1 to 4: a new object, feed, end, out. */
public final class TapeTest {
    public static void main(String[] args) {
        newObject();
        feedAndEnd();
        tapeIsTakenUp();
        out();
        Check.finish();
    }

    private static void newObject() {
        Check c = new Check("new object");
        c.count(0, 0).count(1, 1).count(2, 0).count(3, 0).count(4, 0).places(1, 1);
        c.count(7, NameRoom.NONE).count(-1, NameRoom.NONE);
        c.count(Integer.MIN_VALUE, NameRoom.NONE).count(Integer.MAX_VALUE, NameRoom.NONE);
        c.due("out 0", c.room.out(0), NameRoom.NONE);
        c.due("end 1", c.room.end(1), NameRoom.NONE);
        c.due("end 0", c.room.end(0), 0);
        c.due("name 0", c.room.name(0), NameRoom.NONE);
        c.due("value 0", c.room.value(0), NameRoom.NONE);
        c.due("close", c.room.close(), NameRoom.STATE);
    }

    private static void feedAndEnd() {
        Check c = new Check("feed");
        for (int i = 1; i <= 30; i++) {
            c.due("feed", c.room.feed(0x41424344, 0x45464748, 0x494A4B4C, 0x4D4E4F50, 0x51525354), 20 * i);
        }
        c.due("feed the 31st", c.room.feed(1, 2, 3, 4, 5), NameRoom.FULL);
        c.due("end 601", c.room.end(601), NameRoom.NONE);
        c.due("end -1", c.room.end(-1), NameRoom.NONE);
        c.due("end least", c.room.end(Integer.MIN_VALUE), NameRoom.NONE);
        c.due("end most", c.room.end(Integer.MAX_VALUE), NameRoom.NONE);
        c.due("end 600", c.room.end(600), 600);
        c.due("end 581", c.room.end(581), 581);
        c.due("feed to 601", c.room.feed(0, 0, 0, 0, 0), NameRoom.FULL);
        c.due("end 580", c.room.end(580), 580);
        c.due("feed to 600", c.room.feed(0, 0, 0, 0, 0), 600);
        c.due("end 21", c.room.end(21), 21);
        c.due("end 22", c.room.end(22), NameRoom.NONE);
        c.due("get", c.room.get(), 21);
        c.due("order of bytes", c.out(), "ABCDEFGHIJKLMNOPQRSTA");

        Check all = new Check("bytes");
        all.tape("x=").room.feed(0x00FF8001, 0x7F20FE0A, -1, 0, Integer.MIN_VALUE);
        all.due("end", all.room.end(22), 22);
        all.due("set", all.room.set(), 1);
        all.get("X", "\u0000\u00FF\u0080\u0001\u007F\u0020\u00FE\n\u00FF\u00FF\u00FF\u00FF\0\0\0\0\u0080\0\0\0");
    }

    private static void tapeIsTakenUp() {
        Check c = new Check("tape taken up");
        String wrong = "=";
        c.set(wrong, -1000).due("end behind set", c.room.end(1), NameRoom.NONE);
        c.getFails(wrong, -1000).due("end behind get", c.room.end(1), NameRoom.NONE);
        c.known(wrong, -1000).due("end behind known", c.room.end(1), NameRoom.NONE);
        c.drop(wrong, -1000).due("end behind drop", c.room.end(1), NameRoom.NONE);
        c.open(wrong, -1000).due("end behind open", c.room.end(1), NameRoom.NONE);
        c.parse(wrong, -1001).due("end behind parse", c.room.end(1), NameRoom.NONE);
        c.due("subject", c.tape("y".repeat(201)).room.subject(true), NameRoom.FULL);
        c.due("end behind subject", c.room.end(1), NameRoom.NONE);

        Check rest = new Check("tape left");
        rest.tape("x=1").room.close();
        rest.room.name(0);
        rest.room.value(0);
        rest.room.count(0);
        rest.room.out(0);
        rest.due("set", rest.room.set(), 1);
    }

    private static void out() {
        Check c = new Check("out");
        c.set("x=\u00FFb", 1).get("x", "\u00FFb");
        c.due("out 0", c.room.out(0), 255);
        c.due("out 1", c.room.out(1), 98);
        c.due("out 2", c.room.out(2), NameRoom.NONE);
        c.due("out -1", c.room.out(-1), NameRoom.NONE);
        c.due("out least", c.room.out(Integer.MIN_VALUE), NameRoom.NONE);
        c.due("out most", c.room.out(Integer.MAX_VALUE), NameRoom.NONE);
        c.getFails("1", -1000);
        c.due("name 9", c.room.name(9), NameRoom.NONE);
        c.due("value 9", c.room.value(9), NameRoom.NONE);
        c.due("out stays", c.out(), "\u00FFb");
        c.name(0, 0, "X").value(0, "\u00FFb");
        c.set("e=", 2).get("e", "").count(4, 0);
        c.due("out of nothing", c.room.out(0), NameRoom.NONE);
    }
}
