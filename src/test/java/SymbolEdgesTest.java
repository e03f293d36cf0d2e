import java.util.function.Consumer;

/** The edges of SYMBOLS, VARIABLES and VALUES on the tape, a sentence a test: Part I, promises 5 to 8. */
public final class SymbolEdgesTest {
    private static final String LETTERS = "ABCDEFGHIJKLMNOPQRSTUVWXYZ";
    private static final String SMALL = "abcdefghijklmnopqrstuvwxyz";
    private static final String FIRSTS = LETTERS + SMALL + "!?_";
    private static final String ALL = FIRSTS + "0123456789.";
    private static final String LEAST = "q";
    private static final String ONE_LESS = "q" + "8".repeat(28);
    private static final String MOST = "q" + "8".repeat(29);
    private static final String ONE_MORE = "q" + "8".repeat(30);
    private static final String FAR_MORE = "q" + "8".repeat(99);

    public static void main(String[] args) {
        bytesOfSymbols();
        smallLettersAsCapitals();
        oneToThirty();
        oneToThirtyInSet();
        oneToThirtyInLists();
        oneToThirtyInTemplates();
        noVariable();
        tooShort();
        setTexts();
        alone();
        anyBytes();
        valuesOfAtMostTwoHundred();
        wrongComesFirst();
        wrongLeavesAll();
        Check.finish();
    }

    private static int capital(int b) {
        return SMALL.indexOf(b) >= 0 ? b - 32 : b;
    }

    private static void bytesOfSymbols() {
        for (int b = 0; b < 256; b++) {
            Check c = new Check("letters, digits, . ! ? _ : byte " + b);
            String text = String.valueOf((char) b);
            c.getFails(text, FIRSTS.indexOf(b) >= 0 ? 1 : -1000).getFails("A" + text, ALL.indexOf(b) >= 0 ? 2 : -1001);
            c.getFails("A" + text + "A", ALL.indexOf(b) >= 0 ? 3 : -1001);
            c.set(text + "=", FIRSTS.indexOf(b) >= 0 ? 1 : -1000).known("A" + text, ALL.indexOf(b) >= 0 ? 0 : -1001);
            boolean goesOn = ALL.indexOf(b) >= 0 || b == ' ';
            c.drop("A" + text + "A", goesOn ? c.count(0) : -1001).open("A" + text + "A", goesOn ? 2 : -1001);
        }
    }

    private static void smallLettersAsCapitals() {
        for (int b : (FIRSTS + "0123456789").toCharArray()) {
            Check c = new Check("small letters counting as capitals: byte " + b);
            String text = "A" + (char) b + "." + (char) b + (char) b;
            String full = "A" + (char) capital(b) + "." + (char) capital(b) + (char) capital(b);
            c.get(text, full).set(text + "=" + text, 1).name(0, 0, full).value(0, text).get(full, text).drop(full, 0);
        }
    }

    private static void oneToThirty() {
        Check c = new Check("1 to 30 of them");
        c.getFails("", -1000).get(LEAST, "Q").get(ONE_LESS, "Q" + "8".repeat(28)).get(MOST, "Q" + "8".repeat(29));
        c.getFails(ONE_MORE, -1030).getFails(FAR_MORE, -1030).getFails(MOST + ",", -1030).getFails(ONE_MORE + ",", -1030);
        c.known("", -1000).known(LEAST, 0).known(ONE_LESS, 0).known(MOST, 0).known(ONE_MORE, -1030).known(FAR_MORE, -1030);
        // periods count as well
        c.getFails("q." + "8".repeat(28), 30).getFails("q." + "8".repeat(29), -1030).getFails("q" + ".".repeat(29), 30);
        c.getFails("q" + ".".repeat(30), -1030).getFails("q" + "8".repeat(29) + ".", -1030);
    }

    private static void oneToThirtyInSet() {
        Check c = new Check("1 to 30 of them, set");
        c.set("=1", -1000).set(LEAST + "=1", 1).set(ONE_LESS + "=2", 2).set(MOST + "=3", 3).set(ONE_MORE + "=4", -1030);
        c.set(FAR_MORE + "=5", -1030).set(MOST, -1030).set(ONE_MORE, -1030).count(0, 3);
        c.name(2, 0, "Q" + "8".repeat(29)).value(2, "3").name(1, 0, "Q" + "8".repeat(28)).value(1, "2");
    }

    private static void oneToThirtyInLists() {
        Check c = new Check("1 to 30 of them, drop and open");
        c.set(LEAST + "=", 1).set(MOST + "=", 2);
        c.drop(ONE_MORE, -1030).drop("q " + ONE_MORE, -1032).drop(ONE_MORE + " q", -1030).drop("q " + FAR_MORE, -1032);
        c.drop("q  " + MOST, -1002).drop(MOST + " " + ONE_MORE, -1061).count(0, 2);
        c.open(ONE_MORE, -1030).open("q " + ONE_MORE, -1032).open(MOST + " " + FAR_MORE, -1061).count(1, 1);
        c.open("q " + ONE_LESS + " " + MOST, 2).count(2, 3).drop(ONE_LESS + " " + MOST + " q", 0);
    }

    private static void oneToThirtyInTemplates() {
        Check c = new Check("1 to 30 of them, parse");
        c.parse(LEAST + " " + ONE_LESS + " " + MOST, 3).count(0, 3).parse(ONE_MORE, -1030).parse("q " + ONE_MORE, -1032);
        c.parse("q " + FAR_MORE, -1032).parse(MOST + "(" + MOST + ")", 1).parse("(" + ONE_LESS + ")", 0).parse("(q)", 0);
        c.parse("(" + ONE_MORE + ")", -1031).parse("( " + ONE_MORE, -1032).parse("()", -1001).count(0, 3);
    }

    private static void noVariable() {
        Check c = new Check("of one that is no VARIABLE at its first byte");
        for (String text : new String[] {"0", "9", "0a", "9.", ".", "..", ".a", ".9", "8".repeat(31), "." + "a".repeat(40)}) {
            c.set(text + "=1", -1000).getFails(text, -1000).known(text, -1000).drop(text, -1000).drop("a " + text, -1002);
            c.open(text, -1000).open("a " + text, -1002).parse("(" + text + ")", -1001).parse("( " + text, -1002);
        }
        c.parse(".a", -1000).parse("..", -1000).parse("a .9", -1002).count(0, 0).count(1, 1);
    }

    private static void tooShort() {
        Check c = new Check("its length, if it is too short");
        c.set("", -1000).set("a", -1001).set("abc", -1003).set("abc=", 1).getFails("", -1000).known("", -1000);
        c.drop("", -1000).drop("abc ", -1004).drop("abc d ", -1006).count(0, 1).open("abc ", -1004).open("abc d ", -1006);
        c.open("", 2).parse("", 0).parse("(", -1001).parse("(abc", -1004).parse("+", -1001).parse("a =  ", -1005);
    }

    private static void setTexts() {
        Check c = new Check("a VARIABLE, =, and a VALUE (all that is behind)");
        c.set("=", -1000).set("a=", 1).value(0, "").set("a==", 1).value(0, "=").set("a= ", 1).value(0, " ");
        c.set("a=b=c", 1).value(0, "b=c").set(" a=1", -1000).set("a =1", -1001).set("a+=1", -1001).set("a", -1001);
        c.set("a=\0", 1).value(0, "\0").set("a.=1", 2).set("a..=1", 3).set("a'=1", -1001).count(0, 3);
    }

    private static void alone() {
        Check c = new Check("The tape is a VARIABLE");
        c.set("a=1", 1).getFails("a ", -1001).getFails(" a", -1000).getFails("a a", -1001).getFails("a=", -1001).get("a", "1");
        c.known("a ", -1001).known(" a", -1000).known("a a", -1001).known("a=", -1001).known("a\0", -1001).known("a", 2);
    }

    private static String bytesFrom(int first) {
        StringBuilder text = new StringBuilder();
        for (int b = first; b < first + 200; b++) {
            text.append((char) (b & 255));
        }
        return text.toString();
    }

    private static void anyBytes() {
        new Check("VALUES of any bytes").set("x=" + bytesFrom(0), 1).get("x", bytesFrom(0)).value(0, bytesFrom(0));
        new Check("VALUES of any bytes").set("x=" + bytesFrom(56), 1).get("x", bytesFrom(56)).value(0, bytesFrom(56));
    }

    private static void valuesOfAtMostTwoHundred() {
        Check c = new Check("also at byte 201 of the VALUE");
        c.set("x=", 1).get("x", "").known("x", 2).set("x=1", 1).get("x", "1");
        c.set("x=" + "y".repeat(199), 1).getFails("x", 199).set("x=" + "z".repeat(200), 1).getFails("x", 200);
        c.set("x=" + "y".repeat(201), -1202).set("x=" + "y".repeat(202), -1202).set("x=" + "y".repeat(598), -1202);
        c.set("abc=" + "y".repeat(201), -1204).set(MOST + "=" + "y".repeat(200), 2).set(MOST + "=" + "y".repeat(201), -1231);
        c.set("s.1=" + "y".repeat(201), -1204).count(0, 2).get("x", "z".repeat(200));
    }

    private static void wrongComesFirst() {
        Check c = new Check("WRONG ahead of LONG and FULL");
        c.set("v=" + "v".repeat(200), 1).giveMany("n", 99).count(0, 100);
        c.set("a.v=" + "y".repeat(201), -1204).set("q=" + "y".repeat(201), -1202).set("a.v", -1003).getFails("a.v,", -1003);
        c.known("a.v ", -1003).drop("a.v ,", -1004).drop("n1 a.v 1", -1007).open("a.v ,", -1004).parse("a.v q '", -1006);
        // LONG ahead of FULL
        c.set("a.v=1", NameRoom.LONG).parse("a.v", NameRoom.LONG).parse("(a.v) q", NameRoom.LONG).parse("q (a.v)", NameRoom.LONG);
        c.count(0, 100).known("n1", 2);
    }

    private static void wrongLeavesAll() {
        Consumer<Check> before = c -> c.set("a=1", 1).set("s.=2", 2).set("s.1=3", 3).drop("s.2", 4).subject("p,q")
                .parse("b ',' c", 2).get("s.9", "2").open("a s.", 2).set("own=4", 7);
        Check.stays("a WRONG set", before, c -> c.set("a", -1001));
        Check.stays("a WRONG set of a STEM", before, c -> c.set("s.=" + "y".repeat(201), -1203));
        Check.stays("a WRONG get", before, c -> c.getFails("a,", -1001));
        Check.stays("a WRONG known", before, c -> c.known("a,", -1001));
        Check.stays("WRONG, and nothing is dropped", before, c -> c.drop("a s. own 1", -1009));
        Check.stays("a WRONG open", before, c -> c.open("a s. 1", -1005));
        Check.stays("WRONG, and nothing is done", before, c -> c.parse("a ',' s. 2 own (", -1016));
    }
}
