import java.util.function.Consumer;

/** The edges of THE TAPE and THE OUT, a sentence of the document a test: Part I, promises 1 to 4. */
public final class TapeEdgesTest {
    private static final String BLANKS = " ".repeat(599);

    public static void main(String[] args) {
        newBesideAnother();
        lastOfManyCalls();
        atMostSixHundred();
        refusedFeedLeavesTheBytes();
        highestByteFirst();
        behindThoseOnTheTape();
        firstBytesAlone();
        refusedEndLeavesTheTape();
        emptyTape();
        takenUpWhateverItAnswers();
        takenUpByOpen();
        notTakenUp();
        outAtFirst();
        outEdges();
        outIsTheLatest();
        outStays();
        Check.finish();
    }

    private static void newBesideAnother() {
        Check used = new Check("a used object");
        used.set("x=1", 1).open("x", 2).subject("abc").parse("'b' y", 1).get("y", "c").tape("left");
        Check c = new Check("makes an object in the state that the terms give");
        c.count(0, 0).count(1, 1).count(2, 0).count(3, 0).count(4, 0).places(1, 1).end(1, NameRoom.NONE).out(0, NameRoom.NONE);
        c.nameFails(0, NameRoom.NONE).valueFails(0, NameRoom.NONE).close(NameRoom.STATE).known("x", 0).parse("z", 1).get("z", "");
        used.end(4, 4).count(0, 2).count(1, 2).count(3, 3).places(3, 2).outIs("c");
    }

    private static void lastOfManyCalls() {
        Check c = new Check("used for at most 512 calls");
        c.set("x=1", 1);
        while (c.calls() < Check.CALLS_MOST - 1) {
            c.count(0, 1);
        }
        c.count(0, 1);
    }

    private static void atMostSixHundred() {
        Check c = new Check("THE TAPE has at most 600 bytes");
        for (int size = 20; size <= 600; size += 20) {
            c.feedDue(size);
        }
        c.feedDue(NameRoom.FULL).end(600, 600).feedDue(NameRoom.FULL).end(599, 599).feedDue(NameRoom.FULL);
        c.end(582, 582).feedDue(NameRoom.FULL).end(581, 581).feedDue(NameRoom.FULL).end(581, 581);
        c.end(580, 580).feedDue(600).feedDue(NameRoom.FULL).end(579, 579).feedDue(599).feedDue(NameRoom.FULL).end(599, 599);

        new Check("all 600 count").parse(BLANKS + ",", -1599).parse(BLANKS + ".", 1).parse(BLANKS + "'", -1599);
    }

    private static void refusedFeedLeavesTheBytes() {
        Check c = new Check("FULL if there would be more than 600");
        c.tape(BLANKS + ",").feedDue(NameRoom.FULL).end(601, NameRoom.NONE);
        c.due("parse", c.parse(), -1599);
        c.tape("Q" + BLANKS.substring(19)).feedDue(NameRoom.FULL).end(1, 1);
        c.due("get", c.get(), 1).outIs("Q");
    }

    private static void highestByteFirst() {
        Check c = new Check("the highest of each int first");
        c.feed(0x783D0080, 0xFF7F01FE, Integer.MIN_VALUE, Integer.MAX_VALUE, -1);
        c.due("set", c.set(), 1);
        c.get("x", "\0\u0080\u00FF\u007F\u0001\u00FE\u0080\0\0\0\u007F\u00FF\u00FF\u00FF\u00FF\u00FF\u00FF\u00FF");
    }

    private static void behindThoseOnTheTape() {
        Check c = new Check("come behind those on THE TAPE");
        c.tape("b").feedDue(21).end(3, 3);
        c.due("get", c.get(), 3).outIs("BAA");
        c.tape("x=").feedDue(22).feedDue(42);
        c.due("set", c.set(), 1).get("x", "a".repeat(40));
        c.feedDue(20).end(0, 0);
        c.due("get", c.get(), -1000);
    }

    private static void firstBytesAlone() {
        Check c = new Check("its first n bytes alone");
        c.tape("abcdefgh").end(8, 8).end(7, 7).end(8, NameRoom.NONE).end(7, 7).end(1, 1).end(2, NameRoom.NONE);
        c.due("get", c.get(), 1).outIs("A");
        c.tape("abcdefgh").end(8, 8);
        c.due("get", c.get(), 8).outIs("ABCDEFGH");
        c.tape("abcdefgh").end(0, 0).end(1, NameRoom.NONE);
        c.due("get", c.get(), -1000);
    }

    private static void refusedEndLeavesTheTape() {
        Check c = new Check("NONE if there are not so many, or n is below 0");
        for (int n : new int[] {5, 6, 600, 601, Integer.MAX_VALUE, -1, -2, -600, Integer.MIN_VALUE}) {
            c.tape("abcd").end(n, NameRoom.NONE);
            c.due("get behind end " + n, c.get(), 4).outIs("ABCD");
        }
    }

    private static void emptyTape() {
        Check c = new Check("an empty tape");
        c.end(0, 0).end(1, NameRoom.NONE).end(-1, NameRoom.NONE);
        c.due("set", c.set(), -1000).due("get", c.get(), -1000).due("known", c.known(), -1000);
        c.due("drop", c.drop(), -1000).due("open", c.open(), 2).due("subject", c.subject(false), 0);
        c.due("subject", c.subject(true), 0).due("parse", c.parse(), 0).count(0, 0).count(1, 2);
    }

    private static Check crowded() {
        Check c = new Check("leaves it empty, whatever it answers");
        return c.set("v=" + "v".repeat(200), 1).set("t.=1", 2).giveMany("n", 98).count(0, 100);
    }

    private static Check isEmpty(Check c) {
        return c.end(1, NameRoom.NONE).feedDue(20).end(0, 0);
    }

    private static void takenUpWhateverItAnswers() {
        Check c = crowded();
        isEmpty(c.set("n1=2", 100));
        isEmpty(c.set("n1", -1002));
        isEmpty(c.set("a.v=2", NameRoom.LONG));
        isEmpty(c.set("q=2", NameRoom.FULL));
        isEmpty(c.get("q", "Q"));
        isEmpty(c.getFails("q ", -1001));
        isEmpty(c.getFails("a.v", NameRoom.LONG));
        isEmpty(c.known("n1", 2));
        isEmpty(c.known("q", 0));
        isEmpty(c.known("t.7", 1));
        isEmpty(c.known("q ", -1001));
        isEmpty(c.known("a.v", NameRoom.LONG));
        isEmpty(c.drop("q", 100));
        isEmpty(c.drop("q ", -1002));
        isEmpty(c.drop("a.v n1", NameRoom.LONG));
        isEmpty(c.drop("t.1 n1", NameRoom.FULL));
        isEmpty(c.subject("one two"));
        isEmpty(c.subject("y".repeat(201), NameRoom.FULL));
        isEmpty(c.parse("n1 n2", 2));
        isEmpty(c.parse("n1 n2 '", -1006));
        isEmpty(c.parse("a.v n1", NameRoom.LONG));
        isEmpty(c.parse("(a.v) n1", NameRoom.LONG));
        isEmpty(c.parse("q n1", NameRoom.FULL));
    }

    private static void takenUpByOpen() {
        Check c = crowded();
        isEmpty(c.open("v", 2));
        isEmpty(c.open("v ", -1002));
        isEmpty(c.open("v a.v", NameRoom.LONG));
        for (int i = 3; i <= 8; i++) {
            c.open("", i);
        }
        isEmpty(c.open("v", NameRoom.FULL));
    }

    private static void notTakenUp() {
        Check c = new Check("what does not take it up leaves it");
        c.set("s.=1", 1).drop("s.1", 2).open("", 2).tape("abc");
        c.close(1).close(NameRoom.STATE).out(0, NameRoom.NONE).name(0, 0, "S.").value(0, "1").out(0, 49);
        c.nameFails(2, NameRoom.NONE).valueFails(2, NameRoom.NONE).valueFails(1, NameRoom.STATE).count(0, 2).count(9, NameRoom.NONE);
        c.end(3, 3).due("get", c.get(), 3).outIs("ABC");
    }

    private static void outAtFirst() {
        new Check("THE OUT at first nothing").count(4, 0).out(0, NameRoom.NONE).out(1, NameRoom.NONE).out(-1, NameRoom.NONE);
    }

    private static void outEdges() {
        Check c = new Check("NONE if there is none such");
        c.set("x=" + "\u00FF" + "y".repeat(198) + "\0", 1).due("get", c.tape("x").get(), 200);
        c.out(0, 255).out(1, 121).out(198, 121).out(199, 0).out(200, NameRoom.NONE).out(201, NameRoom.NONE);
        c.out(-1, NameRoom.NONE).out(Integer.MIN_VALUE, NameRoom.NONE).out(Integer.MAX_VALUE, NameRoom.NONE);
        c.out(256, NameRoom.NONE).out(-256, NameRoom.NONE);
        c.set("x=ab", 1).get("x", "ab").out(1, 98).out(2, NameRoom.NONE).set("x=", 1).get("x", "").out(0, NameRoom.NONE);
    }

    private static void outIsTheLatest() {
        Check c = new Check("THE OUT is what was written latest");
        c.set("abc=12345", 1).get("abc", "12345").name(0, 0, "ABC").value(0, "12345").get("q", "Q");
        c.set("abc=", 1).value(0, "").name(0, 0, "ABC");
    }

    private static void outStays() {
        Consumer<Check> before = c -> c.set("v=" + "v".repeat(30), 1).set("s.=2", 2).drop("s.1", 3).get("s.", "2");
        Check.stays("set writes nothing", before, c -> c.set("s.=2", 2).drop("s.1", 3));
        Check.stays("known writes nothing", before, c -> c.known("v", 2));
        Check.stays("open and close write nothing", before, c -> c.open("v", 2).close(1));
        Check.stays("subject and parse write nothing", before, c -> c.subject("").parse("2 .", 1));
        Check.stays("a WRONG get writes nothing", before, c -> c.getFails("v,", -1001));
        Check.stays("a LONG get writes nothing", before, c -> c.getFails("a.v.v.v.v.v.v.v", NameRoom.LONG));
        Check.stays("name of none writes nothing", before, c -> c.nameFails(3, NameRoom.NONE));
        Check.stays("value of none writes nothing", before, c -> c.valueFails(-1, NameRoom.NONE));
        Check.stays("value of a GONE one writes nothing", before, c -> c.valueFails(2, NameRoom.STATE));
    }
}
