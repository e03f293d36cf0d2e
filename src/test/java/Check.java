import java.nio.charset.StandardCharsets;
import java.util.function.Consumer;

/** One room with its calls told in texts; what is not as due is printed and counted. */
final class Check {
    // what later calls answer is free, so no test may lean on it
    static final int CALLS_MOST = 512;
    private static int wrong = 0;
    private final String title;
    private final NameRoom room = new NameRoom();
    private int calls = 0;

    Check(String title) {
        this.title = title;
    }

    private NameRoom called() {
        calls++;
        if (calls == CALLS_MOST + 1) {
            due("calls", calls, CALLS_MOST);
        }
        return room;
    }

    int calls() {
        return calls;
    }

    int feed(int a, int b, int c, int d, int e) {
        return called().feed(a, b, c, d, e);
    }

    int end(int n) {
        return called().end(n);
    }

    int out(int i) {
        return called().out(i);
    }

    int set() {
        return called().set();
    }

    int get() {
        return called().get();
    }

    int known() {
        return called().known();
    }

    int drop() {
        return called().drop();
    }

    int open() {
        return called().open();
    }

    int close() {
        return called().close();
    }

    int subject(boolean capitals) {
        return called().subject(capitals);
    }

    int parse() {
        return called().parse();
    }

    int name(int i) {
        return called().name(i);
    }

    int value(int i) {
        return called().value(i);
    }

    int count(int what) {
        return called().count(what);
    }

    /** Puts the text on the tape, which must be empty. */
    Check tape(String text) {
        byte[] bytes = text.getBytes(StandardCharsets.ISO_8859_1);
        for (int i = 0; i < bytes.length; i += 20) {
            feed(word(bytes, i), word(bytes, i + 4), word(bytes, i + 8), word(bytes, i + 12), word(bytes, i + 16));
        }
        end(bytes.length);
        return this;
    }

    private static int word(byte[] bytes, int start) {
        int word = 0;
        for (int i = start; i < start + 4; i++) {
            word = word << 8 | (i < bytes.length ? bytes[i] & 255 : 0);
        }
        return word;
    }

    String out() {
        StringBuilder text = new StringBuilder();
        int size = count(4);
        for (int i = 0; i < size; i++) {
            text.append((char) out(i));
        }
        return text.toString();
    }

    Check feedDue(int want) {
        return due("feed", feed(0x61616161, 0x61616161, 0x61616161, 0x61616161, 0x61616161), want);
    }

    Check end(int n, int want) {
        return due("end " + n, end(n), want);
    }

    Check out(int i, int want) {
        return due("out " + i, out(i), want);
    }

    Check outIs(String want) {
        return due("out", out(), want);
    }

    Check set(String text, int want) {
        return due("set " + text, tape(text).set(), want);
    }

    Check get(String text, String want) {
        return due("get " + text, tape(text).get(), want.length()).outIs(want);
    }

    Check getFails(String text, int want) {
        return due("get " + text, tape(text).get(), want);
    }

    Check known(String text, int want) {
        return due("known " + text, tape(text).known(), want);
    }

    Check drop(String text, int want) {
        return due("drop " + text, tape(text).drop(), want);
    }

    Check open(String text, int want) {
        return due("open " + text, tape(text).open(), want);
    }

    Check close(int want) {
        return due("close", close(), want);
    }

    Check subject(String text) {
        return subject(text, text.length());
    }

    Check subject(String text, int want) {
        return due("subject " + text, tape(text).subject(false), want);
    }

    Check capitals(String text, int want) {
        return due("subject in capitals " + text, tape(text).subject(true), want);
    }

    Check parse(String text, int want) {
        return due("parse " + text, tape(text).parse(), want);
    }

    Check places(int from, int began) {
        return count(5, from).count(6, began);
    }

    Check count(int what, int want) {
        return due("count " + what, count(what), want);
    }

    Check name(int i, int pool, String want) {
        return due("name " + i, name(i), pool).outIs(want);
    }

    Check nameFails(int i, int want) {
        return due("name " + i, name(i), want);
    }

    Check value(int i, String want) {
        return due("value " + i, value(i), want.length()).outIs(want);
    }

    Check valueFails(int i, int want) {
        return due("value " + i, value(i), want);
    }

    /** The names 0 to size - 1, as texts of the letter and the number, are given nothing. */
    Check giveMany(String letters, int size) {
        for (int next = 0; next < size;) {
            StringBuilder template = new StringBuilder();
            int targets = 0;
            for (; next < size && template.length() + letters.length() + 5 <= 600; next++) {
                template.append(letters).append(next).append(' ');
                targets++;
            }
            parse(template.toString(), targets);
        }
        return this;
    }

    /** All that can be seen of the room, OUT first, since the rest is written there. */
    private String state(int first, int stop) {
        StringBuilder text = new StringBuilder(out());
        for (int what = 0; what <= 6; what++) {
            text.append(' ').append(count(what));
        }
        text.append(" tape ").append(end(1)).append(' ').append(end(0));
        for (int i = first; i < stop; i++) {
            text.append(", ").append(name(i)).append(' ').append(out());
            text.append(' ').append(value(i)).append(' ').append(out());
        }
        text.append(", subject ").append(tape("zz").parse()).append(' ').append(tape("zz").get()).append(' ').append(out());
        while (count(1) > 1) {
            text.append(", pool ").append(count(2)).append(' ').append(count(0)).append(' ').append(close());
        }
        return text.toString();
    }

    /** That a call leaves all as it is: a room with it looks as one without it. */
    static void stays(String title, Consumer<Check> before, Consumer<Check> call, int first, int stop) {
        Check with = new Check(title);
        Check without = new Check(title);
        before.accept(with);
        before.accept(without);
        call.accept(with);
        with.due("what stays", with.state(first, stop), without.state(first, stop));
    }

    static void stays(String title, Consumer<Check> before, Consumer<Check> call) {
        stays(title, before, call, 0, 8);
    }

    Check due(String call, int got, int want) {
        return due(call, Integer.toString(got), Integer.toString(want));
    }

    Check due(String call, String got, String want) {
        if (!got.equals(want)) {
            wrong++;
            System.out.println(title + ": " + call + " answered [" + got + "], due is [" + want + "]");
        }
        return this;
    }

    static void finish() {
        if (wrong != 0) {
            System.out.println(wrong + " answers are not as due");
            System.exit(1);
        }
    }
}
