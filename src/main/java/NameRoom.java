/**
 * A room of names whose values are rows of bytes: names with tails that are worked out as they
 * stand, stems that give all their tails a value, pools in pools that see some of the outer ones'
 * names, and templates that cut a row of bytes by patterns and places and give the parts to names,
 * in order.
 */
public final class NameRoom {
    public static final int NONE = -1;
    public static final int LONG = -2;
    public static final int STATE = -3;
    public static final int FULL = -4;

    private static final int WRONG = -1000;
    private static final int DONE = 0;

    private static final int TAPE_MOST = 600;
    private static final int FEED_BYTES = 20;
    private static final int VALUE_MOST = 200;
    private static final int SYMBOL_MOST = 30;
    private static final int STRING_MOST = 40;
    private static final int DIGITS_MOST = 4;
    private static final int NAMES_MOST = 100;
    private static final int POOLS_MOST = 8;
    private static final int SEEN_MOST = 12;

    private static final int TEMPLATE_END = 0;
    private static final int VARIABLE = 1;
    private static final int PERIOD = 2;
    private static final int STRING = 3;
    private static final int BRACKET = 4;
    private static final int PLACE = 5;
    private static final int PLACE_AHEAD = 6;
    private static final int PLACE_BACK = 7;

    private final Row tape;
    private final Row written;
    private final Row full;
    private final Row stem;
    private final Row tail;
    private final Row pattern;
    private final Reader reader;
    private final Shelf shelf;
    private final Pools pools;
    private final Cutter cutter;

    public NameRoom() {
        reader = new Reader();
        tape = reader.text;
        written = new Row(VALUE_MOST);
        full = new Row(VALUE_MOST);
        stem = new Row(VALUE_MOST);
        tail = new Row(SYMBOL_MOST);
        pattern = new Row(VALUE_MOST);
        shelf = new Shelf();
        pools = new Pools();
        cutter = new Cutter();
    }

    public int feed(int a, int b, int c, int d, int e) {
        if (tape.length + FEED_BYTES > TAPE_MOST) {
            return FULL;
        }
        tape.addInt(a);
        tape.addInt(b);
        tape.addInt(c);
        tape.addInt(d);
        tape.addInt(e);
        return tape.length;
    }

    public int end(int n) {
        if (n < 0 || n > tape.length) {
            return NONE;
        }
        tape.length = n;
        return n;
    }

    public int out(int i) {
        return written.at(i);
    }

    public int set() {
        int answer = reader.readGift();
        if (answer == DONE) {
            answer = workOut(0) ? give(tape, reader.at, tape.length) : LONG;
        }
        tape.clear();
        return answer == DONE ? shelf.size : answer;
    }

    public int get() {
        int answer = workOutAlone();
        tape.clear();
        if (answer != DONE) {
            return answer;
        }
        written.become(textOf(told()));
        return written.length;
    }

    public int known() {
        int answer = workOutAlone();
        tape.clear();
        if (answer != DONE) {
            return answer;
        }
        Entry told = told();
        if (told == null) {
            return 0;
        }
        // only a stem's value comes from an entry with another, shorter title
        return told.title.length == full.length ? 2 : 1;
    }

    public int drop() {
        int answer = reader.readVariables(TAPE_MOST);
        if (answer == DONE && reader.size == 0) {
            answer = WRONG;
        }
        for (int i = 0; i < reader.size && answer == DONE; i++) {
            answer = workOut(i) ? takeBack() : LONG;
        }
        tape.clear();
        return answer == DONE ? shelf.size : answer;
    }

    public int open() {
        int answer = reader.readVariables(SEEN_MOST);
        if (answer == DONE) {
            answer = pools.depth < POOLS_MOST ? enterPool() : FULL;
        }
        tape.clear();
        return answer == DONE ? pools.depth : answer;
    }

    public int close() {
        if (pools.depth <= 1) {
            return STATE;
        }
        shelf.clearPool(pools.innermost());
        pools.leave();
        return pools.depth;
    }

    public int subject(boolean capitals) {
        int length = tape.length;
        if (length <= VALUE_MOST) {
            cutter.take(tape, capitals);
        }
        tape.clear();
        return length <= VALUE_MOST ? length : FULL;
    }

    public int parse() {
        int answer = reader.readTemplate();
        int waiting = 0;
        if (answer == DONE) {
            cutter.begin();
        }
        // the template's end cuts as well, so one step more than there are tokens
        for (int i = 0; i <= reader.size && answer == DONE; i++) {
            if (!reader.isTarget(i)) {
                answer = cutAt(i);
                for (int k = waiting; k < i && answer == DONE; k++) {
                    answer = handOver(k, k == i - 1);
                }
                waiting = i + 1;
            }
        }
        tape.clear();
        return answer == DONE ? reader.targets : answer;
    }

    public int name(int i) {
        Entry entry = shelf.entryAt(i);
        if (entry == null) {
            return NONE;
        }
        written.become(entry.title);
        return entry.pool;
    }

    public int value(int i) {
        Entry entry = shelf.entryAt(i);
        if (entry == null) {
            return NONE;
        }
        if (entry.gone) {
            return STATE;
        }
        written.become(entry.held);
        return written.length;
    }

    public int count(int what) {
        switch (what) {
            case 0:
                return shelf.size;
            case 1:
                return pools.depth;
            case 2:
                return pools.seenByInnermost();
            case 3:
                return cutter.subject.length;
            case 4:
                return written.length;
            case 5:
                return cutter.from;
            case 6:
                return cutter.began;
            default:
                return NONE;
        }
    }

    private int workOutAlone() {
        int answer = reader.readAlone();
        if (answer != DONE) {
            return answer;
        }
        return workOut(0) ? DONE : LONG;
    }

    /** Puts the full name of the token's variable into full; false if it is LONG. */
    private boolean workOut(int token) {
        int start = reader.startOf(token);
        int stop = reader.stopOf(token);
        full.clear();
        int dot = tape.dotFrom(start, stop);
        if (dot >= stop - 1) {
            return full.addCapitals(tape, start, stop);
        }
        boolean fits = full.addCapitals(tape, start, dot + 1);
        int first = dot + 1;
        for (int i = first; i <= stop && fits; i++) {
            if (i == stop) {
                fits = addTail(first, i);
            } else if (tape.at(i) == '.') {
                fits = addTail(first, i) && full.add('.');
                first = i + 1;
            }
        }
        return fits;
    }

    private boolean addTail(int start, int stop) {
        tail.clear();
        tail.addCapitals(tape, start, stop);
        if (tail.length > 0 && !isDigit(tail.at(0))) {
            Entry entry = shelf.find(tail, pools.owner(tail, pools.innermost()));
            if (entry != null && !entry.gone) {
                return full.addPart(entry.held, 0, entry.held.length);
            }
        }
        return full.addPart(tail, 0, tail.length);
    }

    /** The entry whose value full tells, its own or its stem's; null if it tells nothing. */
    private Entry told() {
        int pool = pools.owner(full, pools.innermost());
        Entry own = shelf.find(full, pool);
        if (own != null) {
            return own.gone ? null : own;
        }
        return stemOf(pool);
    }

    /** The entry of the stem of full as the pool sees it; null if full has none that is given. */
    private Entry stemOf(int pool) {
        if (!full.isCompound()) {
            return null;
        }
        stem.clear();
        stem.addPart(full, 0, full.dotFrom(0, full.length) + 1);
        return shelf.find(stem, pools.owner(stem, pool));
    }

    private Row textOf(Entry told) {
        return told == null ? full : told.held;
    }

    /** Gives full the bytes of the source from start up to stop. */
    private int give(Row source, int start, int stop) {
        int pool = pools.owner(full, pools.innermost());
        if (full.isStem()) {
            shelf.clearBehind(full, pool);
        }
        Entry entry = shelf.findOrAdd(full, pool);
        if (entry == null) {
            return FULL;
        }
        entry.gone = false;
        entry.held.clear();
        entry.held.addPart(source, start, stop);
        return DONE;
    }

    /** Drops full. */
    private int takeBack() {
        int pool = pools.owner(full, pools.innermost());
        if (full.isStem()) {
            shelf.clearBehind(full, pool);
        }
        if (stemOf(pool) == null) {
            shelf.remove(full, pool);
            return DONE;
        }
        Entry entry = shelf.findOrAdd(full, pool);
        if (entry == null) {
            return FULL;
        }
        entry.gone = true;
        return DONE;
    }

    private int enterPool() {
        pools.enter();
        for (int i = 0; i < reader.size; i++) {
            if (!workOut(i)) {
                pools.leave();
                return LONG;
            }
            pools.see(full);
        }
        return DONE;
    }

    /** Finds the part that ends at the token, and moves FROM and BEGAN. */
    private int cutAt(int token) {
        switch (reader.kindOf(token)) {
            case STRING:
                reader.copyString(token, pattern);
                cutter.cutAtPattern(pattern);
                return DONE;
            case BRACKET:
                if (!workOut(token)) {
                    return LONG;
                }
                pattern.become(textOf(told()));
                cutter.cutAtPattern(pattern);
                return DONE;
            case PLACE:
                cutter.cutAtPlace(reader.numberOf(token));
                return DONE;
            case PLACE_AHEAD:
                cutter.cutAtPlace(cutter.began + reader.numberOf(token));
                return DONE;
            case PLACE_BACK:
                cutter.cutAtPlace(cutter.began - reader.numberOf(token));
                return DONE;
            default:
                cutter.cutAtEnd();
                return DONE;
        }
    }

    /** Gives the token's target its share of the part. */
    private int handOver(int token, boolean last) {
        if (last) {
            cutter.takeRest();
        } else {
            cutter.takeWord();
        }
        if (reader.kindOf(token) != VARIABLE) {
            return DONE;
        }
        if (!workOut(token)) {
            return LONG;
        }
        // places count from 1, the bytes of a row from 0
        return give(cutter.subject, cutter.shareFrom - 1, cutter.shareTo - 1);
    }

    private static boolean isDigit(int b) {
        return b >= '0' && b <= '9';
    }

    private static boolean isSymbolByte(int b) {
        boolean letter = b >= 'A' && b <= 'Z' || b >= 'a' && b <= 'z';
        return letter || isDigit(b) || b == '.' || b == '!' || b == '?' || b == '_';
    }

    private static int capital(int b) {
        return b >= 'a' && b <= 'z' ? b - 'a' + 'A' : b;
    }

    /** A row of bytes with a fixed room, so that no call has to make a new one. */
    private static final class Row {
        final byte[] bytes;
        int length;

        Row(int most) {
            bytes = new byte[Math.max(most, 0)];
            length = 0;
        }

        void clear() {
            length = 0;
        }

        int at(int i) {
            return i >= 0 && i < length && i < bytes.length ? bytes[i] & 255 : NONE;
        }

        boolean add(int b) {
            if (length < 0 || length >= bytes.length) {
                return false;
            }
            bytes[length] = (byte) b;
            length++;
            return true;
        }

        void addInt(int word) {
            for (int shift = 24; shift >= 0; shift -= 8) {
                add(word >>> shift);
            }
        }

        /** All of the part comes, or, if there is no room for it, nothing. */
        boolean addPart(Row source, int start, int stop) {
            int size = stop - start;
            if (start < 0 || size < 0 || stop > source.bytes.length) {
                return false;
            }
            if (length < 0 || size > bytes.length - length) {
                return false;
            }
            System.arraycopy(source.bytes, start, bytes, length, size);
            length += size;
            return true;
        }

        boolean addCapitals(Row source, int start, int stop) {
            boolean fits = true;
            for (int i = start; i < stop && fits; i++) {
                fits = add(capital(source.at(i)));
            }
            return fits;
        }

        void become(Row other) {
            length = 0;
            addPart(other, 0, other.length);
        }

        boolean beginsWith(Row other) {
            int size = other.length;
            if (size > length || size > bytes.length || size > other.bytes.length) {
                return false;
            }
            for (int i = 0; i < size; i++) {
                if (bytes[i] != other.bytes[i]) {
                    return false;
                }
            }
            return true;
        }

        boolean standsAt(int start, Row part) {
            for (int i = 0; i < part.length; i++) {
                if (at(start + i) != part.at(i)) {
                    return false;
                }
            }
            return true;
        }

        /** The first period from start on ahead of stop; stop if there is none. */
        int dotFrom(int start, int stop) {
            for (int i = start; i < stop && i < bytes.length; i++) {
                if (i >= 0 && bytes[i] == '.') {
                    return i;
                }
            }
            return stop;
        }

        boolean isStem() {
            return length > 0 && dotFrom(0, length) == length - 1;
        }

        boolean isCompound() {
            return dotFrom(0, length) < length - 1;
        }
    }

    /** A full name of a pool that is given a value, or gone. */
    private static final class Entry {
        final Row title;
        final Row held;
        int pool;
        boolean gone;
        boolean leaves;

        Entry() {
            title = new Row(VALUE_MOST);
            held = new Row(VALUE_MOST);
            pool = 0;
            gone = false;
            leaves = false;
        }
    }

    /** The names of all pools that are given or gone, in the order in which they came. */
    private static final class Shelf {
        final Entry[] entries;
        int size;

        Shelf() {
            entries = new Entry[NAMES_MOST];
            for (int i = 0; i < entries.length; i++) {
                entries[i] = new Entry();
            }
            size = 0;
        }

        Entry entryAt(int i) {
            return i >= 0 && i < size && i < entries.length ? entries[i] : null;
        }

        Entry find(Row title, int pool) {
            for (int i = 0; i < size && i < entries.length; i++) {
                Entry entry = entries[i];
                if (entry != null && entry.pool == pool && entry.title.length == title.length
                        && entry.title.beginsWith(title)) {
                    return entry;
                }
            }
            return null;
        }

        /** Null if it is not there and there is no room for it. */
        Entry findOrAdd(Row title, int pool) {
            Entry found = find(title, pool);
            if (found != null || size < 0 || size >= entries.length) {
                return found;
            }
            Entry entry = entries[size];
            if (entry != null) {
                entry.title.become(title);
                entry.held.clear();
                entry.pool = pool;
                entry.gone = false;
                entry.leaves = false;
                size++;
            }
            return entry;
        }

        void remove(Row title, int pool) {
            Entry entry = find(title, pool);
            if (entry != null) {
                entry.leaves = true;
                sweep();
            }
        }

        /** The stem itself stays: given again, it keeps its place in the order. */
        void clearBehind(Row stem, int pool) {
            for (int i = 0; i < size && i < entries.length; i++) {
                Entry entry = entries[i];
                if (entry != null && entry.pool == pool && entry.title.length > stem.length) {
                    entry.leaves = entry.title.beginsWith(stem);
                }
            }
            sweep();
        }

        void clearPool(int pool) {
            for (int i = 0; i < size && i < entries.length; i++) {
                Entry entry = entries[i];
                if (entry != null && entry.pool == pool) {
                    entry.leaves = true;
                }
            }
            sweep();
        }

        /** Those that leave change places with those that stay, to be used again later. */
        private void sweep() {
            int kept = 0;
            for (int i = 0; i < size && i < entries.length; i++) {
                Entry entry = entries[i];
                if (entry != null && !entry.leaves) {
                    entries[i] = entries[kept];
                    entries[kept] = entry;
                    kept++;
                }
            }
            size = kept;
        }
    }

    /** A full name that a pool sees of the one around it. */
    private static final class Sight {
        final Row title;
        int pool;
        boolean withTails;

        Sight() {
            title = new Row(VALUE_MOST);
            pool = 0;
            withTails = false;
        }

        boolean holds(Row other) {
            return (withTails || other.length == title.length) && other.beginsWith(title);
        }
    }

    /** The pools that lie in one another, and what each sees of the one around it. */
    private static final class Pools {
        // one stack for all pools, since the innermost pool always goes first
        final Sight[] sights;
        int size;
        int depth;

        Pools() {
            sights = new Sight[(POOLS_MOST - 1) * SEEN_MOST];
            for (int i = 0; i < sights.length; i++) {
                sights[i] = new Sight();
            }
            size = 0;
            depth = 1;
        }

        int innermost() {
            return depth - 1;
        }

        void enter() {
            depth++;
        }

        void leave() {
            size -= seenByInnermost();
            depth--;
        }

        /** The pool whose own the name is, as the pool sees it. */
        int owner(Row title, int pool) {
            int owner = pool;
            for (int i = Math.min(size, sights.length) - 1; i >= 0; i--) {
                Sight sight = sights[i];
                if (sight != null && sight.pool == owner && sight.holds(title)) {
                    owner--;
                }
            }
            return owner;
        }

        void see(Row title) {
            if (sees(title) || size < 0 || size >= sights.length) {
                return;
            }
            Sight sight = sights[size];
            if (sight != null) {
                sight.title.become(title);
                sight.pool = innermost();
                sight.withTails = title.isStem();
                size++;
            }
        }

        /** Whether the innermost pool was told this very name. */
        private boolean sees(Row title) {
            for (int i = 0; i < size && i < sights.length; i++) {
                Sight sight = sights[i];
                if (sight != null && sight.pool == innermost() && sight.title.length == title.length
                        && sight.title.beginsWith(title)) {
                    return true;
                }
            }
            return false;
        }

        int seenByInnermost() {
            int found = 0;
            for (int i = 0; i < size && i < sights.length; i++) {
                Sight sight = sights[i];
                if (sight != null && sight.pool == innermost()) {
                    found++;
                }
            }
            return found;
        }
    }

    /** Reads the tape into tokens, and tells where it is WRONG before anything is done by it. */
    private static final class Reader {
        final Row text;
        final int[] kinds;
        final int[] starts;
        final int[] stops;
        int size;
        int targets;
        int at;
        int answer;

        Reader() {
            text = new Row(TAPE_MOST);
            kinds = new int[TAPE_MOST];
            starts = new int[TAPE_MOST];
            stops = new int[TAPE_MOST];
            size = 0;
            targets = 0;
            at = 0;
            answer = DONE;
        }

        private void begin() {
            size = 0;
            targets = 0;
            at = 0;
            answer = DONE;
        }

        boolean isTarget(int token) {
            int kind = kindOf(token);
            return kind == VARIABLE || kind == PERIOD;
        }

        int kindOf(int token) {
            return token >= 0 && token < size && token < kinds.length ? kinds[token] : TEMPLATE_END;
        }

        int startOf(int token) {
            return token >= 0 && token < size && token < starts.length ? starts[token] : 0;
        }

        int stopOf(int token) {
            return token >= 0 && token < size && token < stops.length ? stops[token] : 0;
        }

        int numberOf(int token) {
            int number = 0;
            for (int i = startOf(token); i < stopOf(token); i++) {
                number = number * 10 + text.at(i) - '0';
            }
            return number;
        }

        void copyString(int token, Row row) {
            row.clear();
            int quote = text.at(startOf(token) - 1);
            for (int i = startOf(token); i < stopOf(token); i++) {
                row.add(text.at(i));
                if (text.at(i) == quote) {
                    i++;
                }
            }
        }

        int readAlone() {
            begin();
            readVariable(VARIABLE);
            if (answer == DONE && at < text.length) {
                fail(at);
            }
            return answer;
        }

        /** Leaves at on the value's first byte. */
        int readGift() {
            begin();
            readVariable(VARIABLE);
            if (answer == DONE && text.at(at) != '=') {
                fail(at);
            }
            at++;
            if (answer == DONE && text.length - at > VALUE_MOST) {
                fail(at + VALUE_MOST);
            }
            return answer;
        }

        /** None on an empty tape. */
        int readVariables(int most) {
            begin();
            boolean more = text.length > 0;
            for (int i = 0; i < most && more; i++) {
                readVariable(VARIABLE);
                more = answer == DONE && at < text.length;
                if (more && text.at(at) != ' ') {
                    fail(at);
                    more = false;
                }
                if (more) {
                    at++;
                }
            }
            if (more) {
                fail(at);
            }
            return answer;
        }

        int readTemplate() {
            begin();
            for (int i = 0; i < TAPE_MOST && at < text.length && answer == DONE; i++) {
                readToken();
            }
            return answer;
        }

        private void readToken() {
            int b = text.at(at);
            switch (b) {
                case ' ':
                    at++;
                    break;
                case '\'':
                case '"':
                    readString(b);
                    break;
                case '(':
                    readBracket();
                    break;
                case '=':
                    readSignedPlace(PLACE);
                    break;
                case '+':
                    readSignedPlace(PLACE_AHEAD);
                    break;
                case '-':
                    readSignedPlace(PLACE_BACK);
                    break;
                default:
                    readBareToken(b);
            }
        }

        private void readBareToken(int b) {
            if (isDigit(b)) {
                readPlace(PLACE);
            } else if (b == '.' && !isSymbolByte(text.at(at + 1))) {
                add(PERIOD, at, at + 1);
                targets++;
                at++;
            } else {
                readVariable(VARIABLE);
                targets++;
            }
        }

        private void readVariable(int kind) {
            int start = at;
            int first = text.at(at);
            if (!isSymbolByte(first) || isDigit(first) || first == '.') {
                fail(at);
                return;
            }
            while (at < start + SYMBOL_MOST && isSymbolByte(text.at(at))) {
                at++;
            }
            if (isSymbolByte(text.at(at))) {
                fail(at);
            } else {
                add(kind, start, at);
            }
        }

        private void readBracket() {
            at++;
            skipBlanks();
            readVariable(BRACKET);
            if (answer != DONE) {
                return;
            }
            skipBlanks();
            if (text.at(at) == ')') {
                at++;
            } else {
                fail(at);
            }
        }

        private void readSignedPlace(int kind) {
            at++;
            skipBlanks();
            readPlace(kind);
        }

        private void readPlace(int kind) {
            int start = at;
            while (at < start + DIGITS_MOST && isDigit(text.at(at))) {
                at++;
            }
            if (at == start || isSymbolByte(text.at(at))) {
                fail(at);
            } else {
                add(kind, start, at);
            }
        }

        private void readString(int quote) {
            int start = at + 1;
            int held = 0;
            for (int i = start; i < text.length; i++) {
                boolean isQuote = text.at(i) == quote;
                if (isQuote && text.at(i + 1) != quote) {
                    add(STRING, start, i);
                    at = i + 1;
                    return;
                }
                if (held == STRING_MOST) {
                    fail(i);
                    return;
                }
                held++;
                if (isQuote) {
                    i++;
                }
            }
            fail(at);
        }

        private void skipBlanks() {
            while (at < text.length && text.at(at) == ' ') {
                at++;
            }
        }

        private void add(int kind, int start, int stop) {
            if (size >= 0 && size < kinds.length && size < starts.length && size < stops.length) {
                kinds[size] = kind;
                starts[size] = start;
                stops[size] = stop;
                size++;
            }
        }

        private void fail(int place) {
            answer = WRONG - place;
        }
    }

    /** The subject, and the places at which a template cuts it. */
    private static final class Cutter {
        final Row subject;
        int from;
        int began;
        int shareFrom;
        int shareTo;
        private int partFrom;
        private int partTo;

        Cutter() {
            subject = new Row(VALUE_MOST);
            from = 1;
            began = 1;
            partFrom = 1;
            partTo = 1;
            shareFrom = 1;
            shareTo = 1;
        }

        void begin() {
            from = 1;
            began = 1;
        }

        void take(Row row, boolean capitals) {
            subject.clear();
            if (capitals) {
                subject.addCapitals(row, 0, row.length);
            } else {
                subject.addPart(row, 0, row.length);
            }
        }

        void cutAtPattern(Row pattern) {
            int place = placeOf(pattern);
            partFrom = from;
            partTo = place;
            began = place;
            from = Math.min(place + pattern.length, subject.length + 1);
        }

        /** The end also for a pattern of no bytes, or one that does not stand there. */
        private int placeOf(Row pattern) {
            int theEnd = subject.length + 1;
            if (pattern.length == 0) {
                return theEnd;
            }
            for (int place = from; place + pattern.length <= theEnd; place++) {
                if (subject.standsAt(place - 1, pattern)) {
                    return place;
                }
            }
            return theEnd;
        }

        void cutAtPlace(int asked) {
            int theEnd = subject.length + 1;
            int place = Math.max(1, Math.min(asked, theEnd));
            partFrom = from;
            partTo = place > from ? place : theEnd;
            began = place;
            from = place;
        }

        void cutAtEnd() {
            partFrom = from;
            partTo = subject.length + 1;
        }

        void takeWord() {
            while (partFrom < partTo && subject.at(partFrom - 1) == ' ') {
                partFrom++;
            }
            shareFrom = partFrom;
            while (partFrom < partTo && subject.at(partFrom - 1) != ' ') {
                partFrom++;
            }
            shareTo = partFrom;
            partFrom = Math.min(partFrom + 1, partTo);
        }

        void takeRest() {
            shareFrom = partFrom;
            shareTo = partTo;
            partFrom = partTo;
        }
    }
}
