import java.io.IOException;
import java.nio.file.Files;
import java.nio.file.Path;

/** The calls that README.md tells row by row answer what it says, and so do those of its program. */
public final class ReadmeTest {
    private static final int ROWS_LEAST = 20;
    private static final String HEAD = "| call | on the tape | answer | written | why |";

    public static void main(String[] args) throws IOException {
        table(Files.readString(Path.of("README.md")));
        program();
        Check.finish();
    }

    private static void table(String text) {
        Check c = new Check("README.md");
        int found = 0;
        boolean within = false;
        for (String line : text.split("\n")) {
            String[] cells = line.split("\\|", -1);
            if (within && cells.length == 7 && !cells[1].contains("-")) {
                row(c, cells);
                found++;
            }
            within = line.equals(HEAD) || within && line.startsWith("|");
        }
        c.due("enough rows", String.valueOf(found >= ROWS_LEAST), "true");
    }

    private static void row(Check c, String[] cells) {
        String call = cells[1].strip();
        String tape = code(cells[2]);
        c.due(call + " " + tape, answer(c, call, tape), Integer.parseInt(cells[3].strip()));
        if (!cells[4].isBlank()) {
            c.outIs(code(cells[4]));
        }
    }

    private static int answer(Check c, String call, String tape) {
        switch (call) {
            case "set":
                return c.tape(tape).set();
            case "get":
                return c.tape(tape).get();
            case "known":
                return c.tape(tape).known();
            case "drop":
                return c.tape(tape).drop();
            case "open":
                return c.tape(tape).open();
            case "close":
                return c.close();
            case "subject":
                return c.tape(tape).subject(false);
            case "parse":
                return c.tape(tape).parse();
            case "name":
                return c.name(Integer.parseInt(tape));
            case "count":
                return c.count(Integer.parseInt(tape));
            default:
                c.due("README.md's call", call, "a call of the room");
                return 0;
        }
    }

    private static String code(String cell) {
        int first = cell.indexOf('`');
        return first < 0 ? "" : cell.substring(first + 1, cell.lastIndexOf('`'));
    }

    private static void program() {
        Check c = new Check("README.md's program");
        c.due("feed", c.feed(0x782E693D, 0x6F6E6500, 0, 0, 0), 20);
        c.end(7, 7).due("set", c.set(), 1);
        c.due("feed", c.feed(0x782E6900, 0, 0, 0, 0), 20);
        c.end(3, 3).due("get", c.get(), 3).out(0, 111).outIs("one");
    }
}
