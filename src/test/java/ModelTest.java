import java.util.Random;

/** Many runs of calls, the same ones every time, on a room and on the model beside it. */
public final class ModelTest {
    private static final String[] SYMBOLS = {"a", "b", "i", "j", "e", "s.", "s.1", "s.2", "s.i", "S.I", "s.j", "s.i.j",
        "s.e", "s.", "t.", "t.i", "t.e", "t.1.e", "t..", "s.v", "t.v.i", "v", "Q!", "a?_", "x.y.z", "s.1.", "long"};
    private static final String[] VALUES = {"", "1", "2", "i", "I", "J", ".", "1.2", " ", "a b", "b,c", ",", "one two  three",
        "\u00FF", "\0", "v=w"};
    private static final String[] OTHERS = {" ", "  ", "=", ".", "'", "\"", "(", ")", "+", "-", "1", "12345", ",", "''", "\0",
        "\u00E4", "9z", ".a", "abcdefghijklmnopqrstuvwxyz12345"};

    private final Random random;
    private final Check check;
    private final Model model = new Model();
    private final boolean wide;
    private final boolean lengthy;

    private ModelTest(int run) {
        // seeds that lie close together would begin alike
        random = new Random(run * 0x9E3779B97F4A7C15L);
        check = new Check("run " + run);
        wide = random.nextInt(4) == 0;
        lengthy = random.nextInt(4) == 0;
    }

    public static void main(String[] args) {
        int runs = args.length > 0 ? Integer.parseInt(args[0]) : 3000;
        for (int run = 0; run < runs; run++) {
            ModelTest test = new ModelTest(run);
            while (test.check.calls() < Check.CALLS_MOST - 250) {
                test.step();
            }
            test.compareAll();
        }
        Check.finish();
    }

    private String pick(String[] texts) {
        return texts[random.nextInt(texts.length)];
    }

    private String symbol() {
        if (wide && random.nextInt(12) > 0) {
            return (random.nextBoolean() ? "s." : "n") + random.nextInt(200);
        }
        return pick(SYMBOLS);
    }

    private String someValue() {
        if (random.nextInt(lengthy ? 3 : 12) == 0) {
            return "w".repeat(190 + random.nextInt(13));
        }
        return pick(VALUES);
    }

    private String spoilt(String text) {
        if (random.nextInt(10) > 0) {
            return text;
        }
        int at = random.nextInt(text.length() + 1);
        return text.substring(0, at) + pick(OTHERS) + text.substring(Math.min(text.length(), at + random.nextInt(3)));
    }

    private String symbols(int most) {
        StringBuilder text = new StringBuilder();
        int size = random.nextInt(most + 1);
        for (int i = 0; i < size; i++) {
            text.append(i == 0 ? "" : " ").append(symbol());
        }
        return text.toString();
    }

    private String template() {
        StringBuilder text = new StringBuilder();
        int size = random.nextInt(wide ? 60 : 10);
        for (int i = 0; i < size; i++) {
            text.append(wide && random.nextInt(3) > 0 ? symbol() : token()).append(" ".repeat(random.nextInt(8) == 0 ? random.nextInt(3) : 1));
        }
        return text.toString();
    }

    private String token() {
        String blanks = " ".repeat(Math.max(0, random.nextInt(6) - 3));
        switch (random.nextInt(10)) {
            case 0:
                return ".";
            case 1:
                return "'" + pick(VALUES) + "'";
            case 2:
                return "\"" + pick(new String[] {"'", "\"\"", " ", "o", "x".repeat(36 + random.nextInt(8)), "\"\"".repeat(39 + random.nextInt(4))}) + "\"";
            case 3:
                return "(" + blanks + symbol() + blanks + ")";
            case 4:
                return pick(new String[] {"", "=", "+", "-"}) + blanks + random.nextInt(random.nextBoolean() ? 12 : 12000);
            default:
                return symbol();
        }
    }

    private void tape(String text) {
        String fits = text.length() > 600 ? text.substring(0, 600) : text;
        check.tape(fits);
        model.tape = fits;
    }

    private void due(String call, int got, int want) {
        check.due(check.calls() + " " + call, got, want);
    }

    private void step() {
        switch (random.nextInt(wide ? 12 : 16)) {
            case 0: case 1: case 2: case 3: case 4: {
                String text = spoilt((lengthy && random.nextInt(3) == 0 ? "v" : symbol()) + "=" + someValue());
                tape(text);
                due("set " + text, check.set(), model.set());
                break;
            }
            case 5: case 6: {
                String text = spoilt(symbols(3));
                tape(text);
                due("drop " + text, check.drop(), model.drop());
                break;
            }
            case 7: case 8: case 9: {
                String text = spoilt(template());
                tape(text);
                due("parse " + text, check.parse(), model.parse());
                break;
            }
            case 10: {
                String text = spoilt(symbol());
                tape(text);
                due("get " + text, check.get(), model.get());
                compareOut();
                break;
            }
            case 11: {
                String text = spoilt(symbol());
                tape(text);
                due("known " + text, check.known(), model.known());
                break;
            }
            case 12: {
                String text = spoilt(symbols(random.nextInt(6) == 0 ? 15 : 3));
                tape(text);
                due("open " + text, check.open(), model.open());
                break;
            }
            case 13:
                if (random.nextBoolean()) {
                    due("close", check.close(), model.close());
                }
                break;
            default: {
                String text = someValue() + someValue();
                boolean capitals = random.nextBoolean();
                tape(text);
                due("subject " + text, check.subject(capitals), model.subject(capitals));
            }
        }
        int what = random.nextInt(9) - 1;
        due("count " + what, check.count(what), model.count(what));
    }

    private void compareOut() {
        int i = random.nextInt(model.out.length() + 1);
        due("out " + i, check.out(i), i < model.out.length() ? model.out.charAt(i) : NameRoom.NONE);
    }

    private void compareAll() {
        for (int what = 0; what <= 6; what++) {
            due("count " + what, check.count(what), model.count(what));
        }
        for (int i = 0; i <= model.named.size() && check.calls() < Check.CALLS_MOST - 4; i++) {
            due("name " + i, check.name(i), model.name(i));
            compareOut();
            due("value " + i, check.value(i), model.value(i));
            compareOut();
        }
    }
}
