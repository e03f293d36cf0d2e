import java.nio.charset.StandardCharsets;

/** One room with its calls told in texts; what is not as due is printed and counted. */
final class Check {
    private static int wrong = 0;
    private final String title;
    final NameRoom room = new NameRoom();

    Check(String title) {
        this.title = title;
    }

    /** Puts the text on the tape, which must be empty. */
    Check tape(String text) {
        byte[] bytes = text.getBytes(StandardCharsets.ISO_8859_1);
        for (int i = 0; i < bytes.length; i += 20) {
            room.feed(word(bytes, i), word(bytes, i + 4), word(bytes, i + 8), word(bytes, i + 12), word(bytes, i + 16));
        }
        room.end(bytes.length);
        return this;
    }

    private static int word(byte[] bytes, int start) {
        int word = 0;
        for (int i = start; i < start + 4; i++) {
            word = word << 8 | (i < bytes.length ? bytes[i] & 255 : 0);
        }
        return word;
    }

    String out() {
        StringBuilder text = new StringBuilder();
        int size = room.count(4);
        for (int i = 0; i < size; i++) {
            text.append((char) room.out(i));
        }
        return text.toString();
    }

    Check set(String text, int want) {
        due("set " + text, tape(text).room.set(), want);
        return this;
    }

    Check get(String text, String want) {
        due("get " + text, tape(text).room.get(), want.length());
        due("get " + text, out(), want);
        return this;
    }

    Check getFails(String text, int want) {
        due("get " + text, tape(text).room.get(), want);
        return this;
    }

    Check known(String text, int want) {
        due("known " + text, tape(text).room.known(), want);
        return this;
    }

    Check drop(String text, int want) {
        due("drop " + text, tape(text).room.drop(), want);
        return this;
    }

    Check open(String text, int want) {
        due("open " + text, tape(text).room.open(), want);
        return this;
    }

    Check close(int want) {
        due("close", room.close(), want);
        return this;
    }

    Check subject(String text) {
        due("subject " + text, tape(text).room.subject(false), text.length());
        return this;
    }

    Check parse(String text, int want) {
        due("parse " + text, tape(text).room.parse(), want);
        return this;
    }

    Check places(int from, int began) {
        due("FROM", room.count(5), from);
        due("BEGAN", room.count(6), began);
        return this;
    }

    Check count(int what, int want) {
        due("count " + what, room.count(what), want);
        return this;
    }

    Check name(int i, int pool, String want) {
        due("name " + i, room.name(i), pool);
        due("name " + i, out(), want);
        return this;
    }

    Check value(int i, String want) {
        due("value " + i, room.value(i), want.length());
        due("value " + i, out(), want);
        return this;
    }

    void due(String call, int got, int want) {
        due(call, Integer.toString(got), Integer.toString(want));
    }

    void due(String call, String got, String want) {
        if (!got.equals(want)) {
            wrong++;
            System.out.println(title + ": " + call + " answered [" + got + "], due is [" + want + "]");
        }
    }

    static void finish() {
        if (wrong != 0) {
            System.out.println(wrong + " answers are not as due");
            System.exit(1);
        }
    }
}
