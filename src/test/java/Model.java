import java.util.ArrayList;
import java.util.LinkedHashSet;
import java.util.List;
import java.util.Locale;
import java.util.Set;
import java.util.regex.Matcher;
import java.util.regex.Pattern;

/** The document told a second time, with texts, lists and patterns of the Java library. */
final class Model {
    private static final String SYMBOL = "[A-Za-z0-9.!?_]";
    private static final String VARIABLE = "[A-Za-z!?_]" + SYMBOL + "{0,29}";
    private static final Pattern ALONE = Pattern.compile(VARIABLE);
    private static final Pattern GIFT = Pattern.compile(VARIABLE + "=.{0,200}", Pattern.DOTALL);
    private static final Pattern DROPPED = Pattern.compile(VARIABLE + "( " + VARIABLE + ")*+");
    private static final Pattern SEEN = Pattern.compile("(" + VARIABLE + "( " + VARIABLE + "){0,11})?");
    private static final Pattern BRACKET = Pattern.compile("\\( *" + VARIABLE + " *\\)");
    private static final Pattern PLACE = Pattern.compile("([-+=] *)?[0-9]{1,4}");

    private static final class Named {
        int pool;
        String full;
        String value;
    }

    String tape = "";
    String out = "";
    String subject = "";
    int from = 1;
    int began = 1;
    final List<Named> named = new ArrayList<>();
    final List<Set<String>> pools = new ArrayList<>();

    Model() {
        pools.add(new LinkedHashSet<>());
    }

    private String takeTape() {
        String text = tape;
        tape = "";
        return text;
    }

    /** The first byte at which no text could match that begins so; the length if it is too short. */
    private static int wrong(Pattern pattern, String text) {
        for (int i = 1; i <= text.length(); i++) {
            Matcher matcher = pattern.matcher(text.substring(0, i));
            if (!matcher.matches() && !matcher.hitEnd()) {
                return -1000 - (i - 1);
            }
        }
        return -1000 - text.length();
    }

    private static boolean isStem(String full) {
        return full.indexOf('.') == full.length() - 1;
    }

    private static boolean isCompound(String full) {
        return full.indexOf('.') >= 0 && !isStem(full);
    }

    private static String stemOf(String full) {
        return full.substring(0, full.indexOf('.') + 1);
    }

    private int innermost() {
        return pools.size() - 1;
    }

    private int owner(int pool, String full) {
        if (pool == 0) {
            return 0;
        }
        for (String seen : pools.get(pool)) {
            if (seen.equals(full) || isStem(seen) && full.startsWith(seen)) {
                return owner(pool - 1, full);
            }
        }
        return pool;
    }

    private Named find(int pool, String full) {
        for (Named one : named) {
            if (one.pool == pool && one.full.equals(full)) {
                return one;
            }
        }
        return null;
    }

    /** What it tells, seen from the pool; null if nothing. */
    private String tells(String full) {
        int pool = owner(innermost(), full);
        Named own = find(pool, full);
        if (own != null) {
            return own.value;
        }
        if (!isCompound(full)) {
            return null;
        }
        Named stem = find(owner(pool, stemOf(full)), stemOf(full));
        return stem == null ? null : stem.value;
    }

    /** Null if it is LONG. */
    private String fullName(String symbol) {
        String capitals = symbol.toUpperCase(Locale.ROOT);
        if (!isCompound(capitals)) {
            return capitals;
        }
        List<String> parts = new ArrayList<>();
        for (String tail : capitals.substring(stemOf(capitals).length()).split("\\.", -1)) {
            boolean plain = tail.isEmpty() || Character.isDigit(tail.charAt(0));
            String told = plain ? null : tells(tail);
            parts.add(told == null ? tail : told);
        }
        String full = stemOf(capitals) + String.join(".", parts);
        return full.length() > 200 ? null : full;
    }

    private int give(String full, String value) {
        int pool = owner(innermost(), full);
        if (isStem(full)) {
            named.removeIf(one -> one.pool == pool && one.full.startsWith(full) && !one.full.equals(full));
        }
        return put(pool, full, value);
    }

    private int put(int pool, String full, String value) {
        Named one = find(pool, full);
        if (one == null) {
            if (named.size() == 100) {
                return NameRoom.FULL;
            }
            one = new Named();
            one.pool = pool;
            one.full = full;
            named.add(one);
        }
        one.value = value;
        return 0;
    }

    private int dropOne(String full) {
        int pool = owner(innermost(), full);
        if (isStem(full)) {
            named.removeIf(one -> one.pool == pool && one.full.startsWith(full));
            return 0;
        }
        if (isCompound(full) && find(pool, stemOf(full)) != null) {
            return put(pool, full, null);
        }
        named.removeIf(one -> one.pool == pool && one.full.equals(full));
        return 0;
    }

    int set() {
        String text = takeTape();
        if (!GIFT.matcher(text).matches()) {
            return wrong(GIFT, text);
        }
        int split = text.indexOf('=');
        String full = fullName(text.substring(0, split));
        if (full == null) {
            return NameRoom.LONG;
        }
        int answer = give(full, text.substring(split + 1));
        return answer == 0 ? named.size() : answer;
    }

    int get() {
        String text = takeTape();
        if (!ALONE.matcher(text).matches()) {
            return wrong(ALONE, text);
        }
        String full = fullName(text);
        if (full == null) {
            return NameRoom.LONG;
        }
        out = tells(full) == null ? full : tells(full);
        return out.length();
    }

    int known() {
        String text = takeTape();
        if (!ALONE.matcher(text).matches()) {
            return wrong(ALONE, text);
        }
        String full = fullName(text);
        if (full == null) {
            return NameRoom.LONG;
        }
        Named own = find(owner(innermost(), full), full);
        if (own != null) {
            return own.value == null ? 0 : 2;
        }
        return tells(full) == null ? 0 : 1;
    }

    int drop() {
        String text = takeTape();
        if (!DROPPED.matcher(text).matches()) {
            return wrong(DROPPED, text);
        }
        for (String symbol : text.split(" ")) {
            String full = fullName(symbol);
            int answer = full == null ? NameRoom.LONG : dropOne(full);
            if (answer != 0) {
                return answer;
            }
        }
        return named.size();
    }

    int open() {
        String text = takeTape();
        if (!SEEN.matcher(text).matches()) {
            int thirteenth = 0;
            for (int i = 0; i < 12 && thirteenth >= 0; i++) {
                thirteenth = text.indexOf(' ', thirteenth) + 1;
                thirteenth = thirteenth == 0 ? -1 : thirteenth;
            }
            // the blank ahead of a 13th may still be there, its first byte not
            if (thirteenth > 0 && SEEN.matcher(text.substring(0, thirteenth - 1)).matches()) {
                return -1000 - thirteenth;
            }
            return wrong(SEEN, text);
        }
        if (pools.size() == 8) {
            return NameRoom.FULL;
        }
        pools.add(new LinkedHashSet<>());
        for (String symbol : text.isEmpty() ? new String[0] : text.split(" ")) {
            String full = fullName(symbol);
            if (full == null) {
                pools.remove(innermost());
                return NameRoom.LONG;
            }
            pools.get(innermost()).add(full);
        }
        return pools.size();
    }

    int close() {
        if (pools.size() == 1) {
            return NameRoom.STATE;
        }
        int gone = innermost();
        named.removeIf(one -> one.pool == gone);
        pools.remove(gone);
        return pools.size();
    }

    int subject(boolean capitals) {
        String text = takeTape();
        if (text.length() > 200) {
            return NameRoom.FULL;
        }
        StringBuilder row = new StringBuilder();
        for (char b : text.toCharArray()) {
            row.append(capitals && b >= 'a' && b <= 'z' ? (char) (b - 32) : b);
        }
        subject = row.toString();
        return text.length();
    }

    /** The tokens as they stand on the tape; one text that begins with # tells where it is WRONG. */
    private static List<String> tokens(String text) {
        List<String> tokens = new ArrayList<>();
        int at = 0;
        while (at < text.length()) {
            int size = text.charAt(at) == ' ' ? 1 : tokenSize(text.substring(at));
            if (size < 0) {
                return List.of("#" + (at - 1000 - size));
            }
            tokens.add(text.substring(at, at + size));
            at += size;
        }
        tokens.removeIf(" "::equals);
        return tokens;
    }

    /** The size of the token at the text's begin, or -1000 less the place where it is WRONG. */
    private static int tokenSize(String text) {
        char first = text.charAt(0);
        if (first == '\'' || first == '"') {
            return stringSize(text, first);
        }
        if (first == '(') {
            Matcher matcher = BRACKET.matcher(text);
            return matcher.lookingAt() ? matcher.end() : wrong(BRACKET, text);
        }
        if ("+-=0123456789".indexOf(first) >= 0) {
            Matcher matcher = PLACE.matcher(text);
            if (!matcher.lookingAt()) {
                return wrong(PLACE, text);
            }
            boolean more = text.substring(matcher.end()).matches("(?s)" + SYMBOL + ".*");
            return more ? -1000 - matcher.end() : matcher.end();
        }
        if (text.matches("(?s)\\.(?!" + SYMBOL + ").*")) {
            return 1;
        }
        Matcher matcher = ALONE.matcher(text);
        if (!matcher.lookingAt()) {
            return -1000;
        }
        boolean more = text.substring(matcher.end()).matches("(?s)" + SYMBOL + ".*");
        return more ? -1000 - matcher.end() : matcher.end();
    }

    private static int stringSize(String text, char quote) {
        Matcher matcher = Pattern.compile(quote + "((?:[^" + quote + "]|" + quote + quote + "){0,40}+)").matcher(text);
        if (!matcher.lookingAt()) {
            return -1000;
        }
        int stop = matcher.end();
        if (stop == text.length()) {
            return -1000;
        }
        boolean ends = text.charAt(stop) == quote && (stop + 1 == text.length() || text.charAt(stop + 1) != quote);
        return ends ? stop + 1 : -1000 - stop;
    }

    int parse() {
        List<String> tokens = tokens(takeTape());
        if (!tokens.isEmpty() && tokens.get(0).startsWith("#")) {
            return -1000 - Integer.parseInt(tokens.get(0).substring(1));
        }
        from = 1;
        began = 1;
        int targets = 0;
        List<String> waiting = new ArrayList<>();
        for (String token : tokens) {
            int answer = 0;
            if (token.matches("[A-Za-z!?_.].*")) {
                targets++;
                waiting.add(token);
            } else {
                answer = cut(token, waiting);
                waiting.clear();
            }
            if (answer != 0) {
                return answer;
            }
        }
        int answer = share(subject.substring(from - 1), waiting);
        return answer == 0 ? targets : answer;
    }

    private int cut(String token, List<String> waiting) {
        char first = token.charAt(0);
        String rest = subject.substring(from - 1);
        if (first == '(') {
            String full = fullName(token.replaceAll("[() ]", ""));
            if (full == null) {
                return NameRoom.LONG;
            }
            return share(cutAtPattern(tells(full) == null ? full : tells(full), rest), waiting);
        }
        if (first == '\'' || first == '"') {
            String quote = String.valueOf(first);
            return share(cutAtPattern(token.substring(1, token.length() - 1).replace(quote + quote, quote), rest), waiting);
        }
        int number = Integer.parseInt(token.replaceAll("[-+= ]", ""));
        int place = first == '+' ? began + number : first == '-' ? began - number : number;
        place = Math.max(1, Math.min(place, subject.length() + 1));
        String part = place > from ? subject.substring(from - 1, place - 1) : rest;
        from = place;
        began = place;
        return share(part, waiting);
    }

    private String cutAtPattern(String pattern, String rest) {
        int found = pattern.isEmpty() ? -1 : rest.indexOf(pattern);
        if (found < 0) {
            from = subject.length() + 1;
            began = from;
            return rest;
        }
        began = from + found;
        from = began + pattern.length();
        return rest.substring(0, found);
    }

    private int share(String part, List<String> waiting) {
        String left = part;
        for (int i = 0; i < waiting.size(); i++) {
            String word = left;
            if (i < waiting.size() - 1) {
                left = left.replaceFirst("^ +", "");
                int blank = left.indexOf(' ');
                word = blank < 0 ? left : left.substring(0, blank);
                left = blank < 0 ? "" : left.substring(blank + 1);
            }
            if (!waiting.get(i).equals(".")) {
                String full = fullName(waiting.get(i));
                int answer = full == null ? NameRoom.LONG : give(full, word);
                if (answer != 0) {
                    return answer;
                }
            }
        }
        return 0;
    }

    int name(int i) {
        if (i < 0 || i >= named.size()) {
            return NameRoom.NONE;
        }
        out = named.get(i).full;
        return named.get(i).pool;
    }

    int value(int i) {
        if (i < 0 || i >= named.size()) {
            return NameRoom.NONE;
        }
        if (named.get(i).value == null) {
            return NameRoom.STATE;
        }
        out = named.get(i).value;
        return out.length();
    }

    int count(int what) {
        int[] counts = {named.size(), pools.size(), pools.get(innermost()).size(), subject.length(), out.length(), from, began};
        return what >= 0 && what < counts.length ? counts[what] : NameRoom.NONE;
    }
}
