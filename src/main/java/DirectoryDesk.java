/**
 * A directory of entries in a tree that is asked and changed by messages in bytes.
 *
 * All rows are made once, with the object, and used again by every call, because what a run of
 * calls makes is never given back.
 */
public final class DirectoryDesk {
    /** The line is closed. */
    public static final int CLOSED = -1;
    /** An argument is out of its bounds, or there is no such thing. */
    public static final int BAD = -2;

    private static final int MOST_TYPED = 200;
    private static final int MOST_ANSWERED = 300;
    private static final int KEPT_FOR_LAST = 16;
    /** No entry's bytes are more, even if all its values and the parts of its name are of full length. */
    private static final int LONGEST_ENTRY = 160;
    private static final int MOST_SHORT = 127;
    private static final int LONG_LENGTH = 129;
    private static final int BYTES_READ_AT_ONCE = 7;
    private static final int MOST_ENTRIES = 16;
    private static final int MOST_PAIRS = 6;
    private static final int MOST_PARTS = 4;
    private static final int MOST_VALUE_BYTES = 8;
    /** Above every value as a number, so that the values of a type all lie between 0 and it. */
    private static final long GREATEST_VALUE = 0x7fffffffffffffffL;
    private static final int MOST_CHANGES = 12;
    private static final int MOST_VALUES = 24;
    private static final int MOST_WANTED = 12;
    private static final int MOST_FILTERS = 20;
    private static final int MOST_DEEP = 6;

    /** Stands for what is no type, no value, no name, no tag or no place. */
    private static final int NONE = -1;

    private static final int FIRST_TYPE = 'a';
    private static final int FIRST_ORDERED_TYPE = 'd';
    private static final int LAST_TYPE = 'f';
    private static final int PASSWORD_TYPE = 'f';
    private static final int EVERY_TYPE = 63;

    private static final int FLAG = 1;
    private static final int NUMBER = 2;
    private static final int TEXT = 4;
    private static final int CHOICE = 10;
    private static final int LIST = 48;
    private static final int VALUES = 49;
    private static final int PASSWORD = 128;
    private static final int FOUND = 100;

    private static final int SIGN = 96;
    private static final int SEARCH = 99;
    private static final int MODIFY = 102;
    private static final int ADD = 104;
    private static final int DELETE = 74;

    private static final int SIGN_DONE = 97;
    private static final int SEARCH_DONE = 101;
    private static final int MODIFY_DONE = 103;
    private static final int ADD_DONE = 105;
    private static final int DELETE_DONE = 107;

    private static final int ALL = 160;
    private static final int ANY = 161;
    private static final int NOT = 162;
    private static final int EQUAL = 163;
    private static final int AT_LEAST = 165;
    private static final int AT_MOST = 166;
    private static final int THERE = 135;

    /** In this order ALL is the least of its filters, ANY the greatest, and NOT turns it round. */
    private static final int FALSE = 0;
    private static final int UNDEFINED = 1;
    private static final int TRUE = 2;

    private static final int MORE = 0;
    private static final int LESS = 1;
    private static final int INSTEAD = 2;

    private static final int BASE_ALONE = 0;
    private static final int CHILDREN = 1;
    private static final int WHOLE_TREE = 2;
    private static final int MOST_UNUSED_CHOICE = 3;

    private static final int DONE = 0;
    private static final int MALFORMED = 2;
    private static final int MORE_FOUND = 4;
    private static final int NO_ROOM = 11;
    private static final int NO_SUCH_PAIR = 16;
    private static final int NO_TYPE = 17;
    private static final int PAIR_TWICE = 20;
    private static final int NO_VALUE = 21;
    private static final int NO_ENTRY = 32;
    private static final int NO_NAME = 34;
    private static final int WRONG_PASSWORD = 49;
    private static final int NOBODY_SIGNED = 50;
    private static final int REFUSED = 53;
    private static final int OWN_PART_MISSING = 64;
    private static final int HAS_CHILDREN = 66;
    private static final int OWN_PART_GONE = 67;
    private static final int ENTRY_EXISTS = 68;
    private static final int VERSION = 3;

    private final Reader in = new Reader();
    private final Writer out = new Writer();
    private final Tree tree = new Tree();
    private final Name target = new Name();
    private final Changes changes = new Changes();
    private final Query query = new Query();
    private final Filters filters = new Filters();
    /** All values of one message may come to an entry's pairs before it is known that these are too many. */
    private final Pairs draft = new Pairs(MOST_PAIRS + MOST_VALUES);
    private boolean lineOpen;
    private boolean signedOn;

    public DirectoryDesk() {
        lineOpen = true;
    }

    public void connect() {
        lineOpen = true;
        signedOn = false;
        in.clear();
    }

    public int type(long bytes, int n) {
        if (!lineOpen) {
            return CLOSED;
        }
        if (n < 1 || n > 8 || in.size + n > MOST_TYPED) {
            return BAD;
        }
        in.take(bytes, n);
        return in.size;
    }

    public int handle() {
        if (!lineOpen) {
            return CLOSED;
        }
        out.clear();
        int code = CLOSED;
        int done = NONE;
        switch (in.readFrame()) {
            case SIGN:
                code = signOn();
                done = SIGN_DONE;
                break;
            case SEARCH:
                code = search();
                done = SEARCH_DONE;
                break;
            case MODIFY:
                code = modify();
                done = MODIFY_DONE;
                break;
            case ADD:
                code = add();
                done = ADD_DONE;
                break;
            case DELETE:
                code = delete();
                done = DELETE_DONE;
                break;
            default:
                // To leave, with contents or without, closes the line just as bytes do that are no message.
                lineOpen = false;
                signedOn = false;
                break;
        }
        in.clear();
        if (lineOpen) {
            conclude(done, code);
        }
        return code;
    }

    public int answered() {
        return out.size;
    }

    public long answer(int i) {
        if (i < 0 || i >= out.size) {
            return NONE;
        }
        long number = 0;
        for (int k = i; k < i + BYTES_READ_AT_ONCE && k < out.size; k++) {
            number = number << 8 | out.bytes[k];
        }
        return number;
    }

    public int entries() {
        return tree.count;
    }

    public int entry(int e) {
        if (e < 0 || e >= tree.count) {
            return BAD;
        }
        return tree.rows[e].name.parts + 8 * tree.rows[e].pairs.count;
    }

    public int pairType(int e, int k) {
        return isPair(e, k) ? tree.rows[e].pairs.types[k] : NONE;
    }

    public long pairValue(int e, int k) {
        return isPair(e, k) ? tree.rows[e].pairs.values[k] : NONE;
    }

    public boolean signed() {
        return signedOn;
    }

    public boolean open() {
        return lineOpen;
    }

    private boolean isPair(int e, int k) {
        return e >= 0 && e < tree.count && k >= 0 && k < tree.rows[e].pairs.count;
    }

    private int signOn() {
        int version = in.number();
        in.span(TEXT);
        target.readFrom(in);
        in.span(PASSWORD);
        if (!in.isReadWell()) {
            return MALFORMED;
        }
        int code = version == VERSION ? passwordCode() : MALFORMED;
        signedOn = code == DONE && target.parts > 0;
        return code;
    }

    /** The password is the text that was read last. */
    private int passwordCode() {
        boolean isEmpty = in.spanFrom == in.spanTo;
        if (target.parts == NONE) {
            return NO_NAME;
        }
        if (target.parts == 0) {
            return isEmpty ? DONE : WRONG_PASSWORD;
        }
        if (isEmpty) {
            return REFUSED;
        }
        int e = tree.find(target, 0);
        boolean isRight = e != NONE && tree.rows[e].pairs.find(PASSWORD_TYPE, in.spanValue()) != NONE;
        return isRight ? DONE : WRONG_PASSWORD;
    }

    private int add() {
        in.span(TEXT);
        target.readFrom(in);
        changes.readFrom(in, false);
        int code = changingCode();
        if (code != DONE) {
            return code;
        }
        if (tree.find(target, 0) != NONE) {
            return ENTRY_EXISTS;
        }
        if (target.parts > 1 && tree.find(target, 1) == NONE) {
            return NO_ENTRY;
        }
        draft.count = 0;
        code = changes.applyTo(draft);
        if (code != DONE) {
            return code;
        }
        if (!draft.hasOwnPartOf(target)) {
            return OWN_PART_MISSING;
        }
        if (tree.count >= MOST_ENTRIES || draft.count > MOST_PAIRS) {
            return REFUSED;
        }
        tree.append(target, draft);
        return DONE;
    }

    private int delete() {
        in.spanRest();
        target.readFrom(in);
        int code = changingCode();
        if (code != DONE) {
            return code;
        }
        int e = tree.find(target, 0);
        if (e == NONE) {
            return NO_ENTRY;
        }
        if (tree.hasChildOf(target)) {
            return HAS_CHILDREN;
        }
        tree.removeAt(e);
        return DONE;
    }

    private int modify() {
        in.span(TEXT);
        target.readFrom(in);
        changes.readFrom(in, true);
        int code = changingCode();
        if (code != DONE) {
            return code;
        }
        int e = tree.find(target, 0);
        if (e == NONE) {
            return NO_ENTRY;
        }
        draft.copyFrom(tree.rows[e].pairs);
        code = changes.applyTo(draft);
        if (code != DONE) {
            return code;
        }
        if (!draft.hasOwnPartOf(target)) {
            return OWN_PART_GONE;
        }
        if (draft.count > MOST_PAIRS) {
            return REFUSED;
        }
        tree.rows[e].pairs.copyFrom(draft);
        return DONE;
    }

    /** What comes first for all operations that change entries, when they have been read. */
    private int changingCode() {
        if (!in.isReadWell()) {
            return MALFORMED;
        }
        if (!signedOn) {
            return NOBODY_SIGNED;
        }
        return target.parts < 1 ? NO_NAME : DONE;
    }

    private int search() {
        in.span(TEXT);
        target.readFrom(in);
        query.readFrom(in);
        filters.readFrom(in);
        query.readWantedTypes(in);
        if (!in.isReadWell()) {
            return MALFORMED;
        }
        if (target.parts == NONE) {
            return NO_NAME;
        }
        if (target.parts > 0 && tree.find(target, 0) == NONE) {
            return NO_ENTRY;
        }
        return answerFound();
    }

    private int answerFound() {
        int found = 0;
        boolean hasRoom = true;
        for (int e = 0; e < tree.count; e++) {
            boolean isInScope = query.isInScope(tree.rows[e].name.levelsUnder(target));
            if (isInScope && filters.areTrueFor(tree.rows[e].pairs)) {
                found++;
                if (hasRoom && query.isWithinLimit(found)) {
                    hasRoom = answerEntry(tree.rows[e]);
                }
            }
        }
        if (!query.isWithinLimit(found)) {
            return MORE_FOUND;
        }
        return hasRoom ? DONE : NO_ROOM;
    }

    /** Whether the entry found room; if not, nothing of it stays in the answer. */
    private boolean answerEntry(Entry found) {
        int before = out.size;
        int message = out.begin(LIST);
        out.number(in.id);
        int operation = out.begin(FOUND);
        out.name(found.name);
        int attributes = out.begin(LIST);
        for (int t = FIRST_TYPE; t <= LAST_TYPE; t++) {
            if (query.wants(t) && found.pairs.hasBetween(t, 0, GREATEST_VALUE)) {
                answerAttribute(found.pairs, t);
            }
        }
        out.finish(attributes);
        out.finish(operation);
        out.finish(message);
        boolean hasRoom = out.size - message <= MOST_SHORT && out.size <= MOST_ANSWERED - KEPT_FOR_LAST;
        if (!hasRoom) {
            out.size = before;
        }
        return hasRoom;
    }

    private void answerAttribute(Pairs pairs, int type) {
        int attribute = out.begin(LIST);
        out.letter(type);
        int values = out.begin(VALUES);
        for (int k = 0; k < pairs.count && !query.typesAlone; k++) {
            if (pairs.types[k] == type) {
                out.value(pairs.values[k]);
            }
        }
        out.finish(values);
        out.finish(attribute);
    }

    /** Writes what comes last in every answer. */
    private void conclude(int done, int code) {
        int message = out.begin(LIST);
        out.number(in.id);
        int operation = out.begin(done);
        int choice = out.begin(CHOICE);
        out.put(code);
        out.finish(choice);
        int nearest = code == NO_ENTRY ? tree.findNearestAbove(target) : NONE;
        if (nearest == NONE) {
            out.begin(TEXT);
        } else {
            out.name(tree.rows[nearest].name);
        }
        out.begin(TEXT);
        out.finish(operation);
        out.finish(message);
    }

    /**
     * What is typed, and a place in it. Once something is wrong it stays so, and what is read then
     * means nothing: so a whole operation can be read first and be judged at its end.
     */
    private static final class Reader {
        final int[] bytes = new int[MOST_TYPED];
        int size;
        int at;
        int end;
        boolean wrong;
        int id;
        int spanFrom;
        int spanTo;

        void clear() {
            size = 0;
        }

        void take(long number, int n) {
            for (int i = n - 1; i >= 0 && size < bytes.length; i--) {
                bytes[size] = (int) (number >> 8 * i) & 255;
                size++;
            }
        }

        /** The tag of the operation, whose contents come next then; NONE if the bytes are no message. */
        int readFrame() {
            at = 0;
            end = size;
            wrong = false;
            enter(LIST);
            id = number();
            int tag = nextTag();
            enter(tag);
            // An element ends inside the one round it: nothing can lie behind either of them then.
            return !wrong && id >= 0 && end == size ? tag : NONE;
        }

        /** Steps into the element that begins here: the end of what is round it, for leaving it. */
        int enter(int tag) {
            int around = end;
            boolean isLong = at + 2 < end && bytes[at + 1] == LONG_LENGTH;
            int from = isLong ? at + 3 : at + 2;
            if (wrong || from > end || bytes[at] != tag || (!isLong && bytes[at + 1] > MOST_SHORT)
                    || bytes[from - 1] > end - from) {
                wrong = true;
                return around;
            }
            at = from;
            end = from + bytes[from - 1];
            return around;
        }

        /** Steps out of an element, which is wrong if something in it was not read. */
        void leave(int around) {
            if (at != end) {
                wrong = true;
            }
            end = around;
        }

        boolean hasMore() {
            return !wrong && at < end;
        }

        boolean isReadWell() {
            return !wrong && at == end;
        }

        int nextTag() {
            return hasMore() ? bytes[at] : NONE;
        }

        int number() {
            span(NUMBER);
            int length = spanTo - spanFrom;
            if (length == 1) {
                return (byte) bytes[spanFrom];
            }
            if (length == 2) {
                return (short) (bytes[spanFrom] << 8 | bytes[spanFrom + 1]);
            }
            wrong = true;
            return 0;
        }

        int choice(int most) {
            int number = single(CHOICE);
            if (number > most) {
                wrong = true;
            }
            return number;
        }

        boolean flag() {
            return single(FLAG) != 0;
        }

        private int single(int tag) {
            span(tag);
            if (spanTo - spanFrom != 1) {
                wrong = true;
                return 0;
            }
            return bytes[spanFrom];
        }

        /** Reads an element with any contents, and keeps where these are. */
        void span(int tag) {
            int around = enter(tag);
            spanRest();
            leave(around);
        }

        /** Reads what is left of the contents. */
        void spanRest() {
            spanFrom = at;
            spanTo = end;
            at = end;
        }

        int spanType() {
            return spanTo - spanFrom == 1 ? typeOf(bytes[spanFrom]) : NONE;
        }

        long spanValue() {
            return valueBetween(spanFrom, spanTo);
        }

        /** A value as one number, its first byte highest: less values are less numbers then. */
        long valueBetween(int from, int to) {
            if (to - from < 1 || to - from > MOST_VALUE_BYTES) {
                return NONE;
            }
            long value = 0;
            int shift = 56;
            for (int i = from; i < to; i++) {
                if (!isInValues(bytes[i])) {
                    return NONE;
                }
                value |= (long) bytes[i] << shift;
                shift -= 8;
            }
            return value;
        }

        /** Where the part of a name that begins here ends: at a comma, or with the text. */
        int partEnd(int from) {
            int to = from;
            for (int i = from; i < spanTo && bytes[i] != ','; i++) {
                to = i + 1;
            }
            return to;
        }

        static int typeOf(int letter) {
            return letter >= FIRST_TYPE && letter <= LAST_TYPE ? letter : NONE;
        }

        private static boolean isInValues(int letter) {
            return (letter >= 'a' && letter <= 'z') || (letter >= '0' && letter <= '9');
        }
    }

    /** The bytes of the answer. */
    private static final class Writer {
        /** An entry is written first and taken back if it found no room: so one more must fit in. */
        final int[] bytes = new int[MOST_ANSWERED + LONGEST_ENTRY];
        int size;

        void clear() {
            size = 0;
        }

        void put(int letter) {
            if (size < bytes.length) {
                bytes[size] = letter;
                size++;
            }
        }

        /** Begins an element, empty so far: where its contents begin, for finishing it. */
        int begin(int tag) {
            put(tag);
            put(0);
            return size;
        }

        void finish(int from) {
            if (from > 0 && from <= size) {
                bytes[from - 1] = size - from;
            }
        }

        void number(int number) {
            int from = begin(NUMBER);
            if (number > MOST_SHORT) {
                put(number >> 8);
            }
            put(number & 255);
            finish(from);
        }

        void letter(int letter) {
            int from = begin(TEXT);
            put(letter);
            finish(from);
        }

        void value(long value) {
            int from = begin(TEXT);
            putValue(value);
            finish(from);
        }

        void name(Name name) {
            int from = begin(TEXT);
            for (int i = 0; i < name.parts; i++) {
                if (i > 0) {
                    put(',');
                }
                put(name.types[i]);
                put('=');
                putValue(name.values[i]);
            }
            finish(from);
        }

        private void putValue(long value) {
            for (int shift = 56; shift >= 0; shift -= 8) {
                int letter = (int) (value >> shift) & 255;
                if (letter != 0) {
                    put(letter);
                }
            }
        }
    }

    /** A name in its parts: NONE of them if the text was no name, 0 for the name of nothing. */
    private static final class Name {
        final int[] types = new int[MOST_PARTS];
        final long[] values = new long[MOST_PARTS];
        int parts;

        /** Takes the text that was read last. */
        void readFrom(Reader in) {
            parts = 0;
            if (in.spanFrom == in.spanTo) {
                return;
            }
            int from = in.spanFrom;
            for (int i = 0; i < MOST_PARTS && from < in.spanTo; i++) {
                int to = in.partEnd(from);
                if (!readPart(in, from, to)) {
                    parts = NONE;
                    return;
                }
                from = to + 1;
            }
            // Behind the last part there is no comma to step over but the end of the text.
            if (from != in.spanTo + 1) {
                parts = NONE;
            }
        }

        private boolean readPart(Reader in, int from, int to) {
            if (to - from < 3 || in.bytes[from + 1] != '=') {
                return false;
            }
            int type = Reader.typeOf(in.bytes[from]);
            long value = in.valueBetween(from + 2, to);
            if (type == NONE || value == NONE) {
                return false;
            }
            append(type, value);
            return true;
        }

        void append(int type, long value) {
            if (parts >= 0 && parts < MOST_PARTS) {
                types[parts] = type;
                values[parts] = value;
                parts++;
            }
        }

        void copyFrom(Name other) {
            System.arraycopy(other.types, 0, types, 0, MOST_PARTS);
            System.arraycopy(other.values, 0, values, 0, MOST_PARTS);
            parts = other.parts;
        }

        /** How many parts stand before that name in this one; NONE if this one does not end with it. */
        int levelsUnder(Name top) {
            int levels = parts - top.parts;
            if (levels < 0) {
                return NONE;
            }
            for (int i = 0; i < top.parts; i++) {
                if (types[levels + i] != top.types[i] || values[levels + i] != top.values[i]) {
                    return NONE;
                }
            }
            return levels;
        }
    }

    /** Pairs of a type and a value, all different, in their order. */
    private static final class Pairs {
        final int[] types;
        final long[] values;
        int count;

        Pairs(int most) {
            types = new int[most];
            values = new long[most];
        }

        int find(int type, long value) {
            for (int k = 0; k < count; k++) {
                if (types[k] == type && values[k] == value) {
                    return k;
                }
            }
            return NONE;
        }

        boolean hasBetween(int type, long least, long greatest) {
            for (int k = 0; k < count; k++) {
                if (types[k] == type && values[k] >= least && values[k] <= greatest) {
                    return true;
                }
            }
            return false;
        }

        boolean hasOwnPartOf(Name name) {
            return name.parts > 0 && find(name.types[0], name.values[0]) != NONE;
        }

        /** Whether it came behind the others: it does not if it is there already. */
        boolean append(int type, long value) {
            if (count >= types.length || find(type, value) != NONE) {
                return false;
            }
            types[count] = type;
            values[count] = value;
            count++;
            return true;
        }

        boolean remove(int type, long value) {
            return removeBetween(type, value, value);
        }

        /** Whether there were any. */
        boolean removeBetween(int type, long least, long greatest) {
            int kept = 0;
            for (int k = 0; k < count; k++) {
                if (types[k] != type || values[k] < least || values[k] > greatest) {
                    types[kept] = types[k];
                    values[kept] = values[k];
                    kept++;
                }
            }
            boolean isLess = kept < count;
            count = kept;
            return isLess;
        }

        void copyFrom(Pairs other) {
            count = Math.min(other.count, types.length);
            System.arraycopy(other.types, 0, types, 0, count);
            System.arraycopy(other.values, 0, values, 0, count);
        }
    }

    private static final class Entry {
        final Name name = new Name();
        final Pairs pairs = new Pairs(MOST_PAIRS);
    }

    /** The entries in the order in which they were added; the rows behind them wait for new ones. */
    private static final class Tree {
        final Entry[] rows = new Entry[MOST_ENTRIES];
        int count;

        Tree() {
            for (int e = 0; e < MOST_ENTRIES; e++) {
                rows[e] = new Entry();
            }
            long r = (long) 'r' << 56;
            rows[0].name.append('a', r);
            rows[0].pairs.append('a', r);
            rows[0].pairs.append('f', (long) 'x' << 56);
            count = 1;
        }

        /** The entry whose name is this one without so many of its first parts. */
        int find(Name name, int skipped) {
            for (int e = 0; e < count; e++) {
                if (name.levelsUnder(rows[e].name) == skipped) {
                    return e;
                }
            }
            return NONE;
        }

        int findNearestAbove(Name name) {
            for (int skipped = 1; skipped < name.parts; skipped++) {
                int e = find(name, skipped);
                if (e != NONE) {
                    return e;
                }
            }
            return NONE;
        }

        boolean hasChildOf(Name name) {
            for (int e = 0; e < count; e++) {
                if (rows[e].name.levelsUnder(name) == 1) {
                    return true;
                }
            }
            return false;
        }

        void append(Name name, Pairs pairs) {
            if (count < MOST_ENTRIES) {
                rows[count].name.copyFrom(name);
                rows[count].pairs.copyFrom(pairs);
                count++;
            }
        }

        /** The row that is free then goes behind the others, to be used again. */
        void removeAt(int e) {
            if (e < 0 || e >= count) {
                return;
            }
            Entry gone = rows[e];
            for (int i = e; i < count - 1; i++) {
                rows[i] = rows[i + 1];
            }
            rows[count - 1] = gone;
            count--;
        }
    }

    /** The changes of a message; attributes to be added are changes of the kind MORE. */
    private static final class Changes {
        final int[] kinds = new int[MOST_CHANGES];
        final int[] types = new int[MOST_CHANGES];
        final int[] valueEnds = new int[MOST_CHANGES];
        final long[] values = new long[MOST_VALUES];
        int count;
        int valueCount;

        void readFrom(Reader in, boolean withKinds) {
            count = 0;
            valueCount = 0;
            int around = in.enter(LIST);
            for (int i = 0; i < MOST_CHANGES && in.hasMore(); i++) {
                if (withKinds) {
                    int aroundChange = in.enter(LIST);
                    kinds[i] = in.choice(INSTEAD);
                    readAttribute(in, i);
                    in.leave(aroundChange);
                } else {
                    kinds[i] = MORE;
                    readAttribute(in, i);
                }
                count = i + 1;
            }
            in.leave(around);
        }

        private void readAttribute(Reader in, int i) {
            int around = in.enter(LIST);
            in.span(TEXT);
            types[i] = in.spanType();
            int aroundValues = in.enter(VALUES);
            for (int v = valueCount; v < MOST_VALUES && in.hasMore(); v++) {
                in.span(TEXT);
                values[v] = in.spanValue();
                valueCount = v + 1;
            }
            valueEnds[i] = valueCount;
            in.leave(aroundValues);
            in.leave(around);
        }

        int applyTo(Pairs pairs) {
            int from = 0;
            for (int i = 0; i < count; i++) {
                int code = applyOne(i, from, pairs);
                if (code != DONE) {
                    return code;
                }
                from = valueEnds[i];
            }
            return DONE;
        }

        private int applyOne(int i, int from, Pairs pairs) {
            if (types[i] == NONE) {
                return NO_TYPE;
            }
            boolean isLess = kinds[i] == LESS;
            if (kinds[i] == INSTEAD || (isLess && from == valueEnds[i])) {
                boolean wereThere = pairs.removeBetween(types[i], 0, GREATEST_VALUE);
                if (isLess && !wereThere) {
                    return NO_SUCH_PAIR;
                }
            }
            for (int v = from; v < valueEnds[i]; v++) {
                if (values[v] == NONE) {
                    return NO_VALUE;
                }
                if (isLess && !pairs.remove(types[i], values[v])) {
                    return NO_SUCH_PAIR;
                }
                if (!isLess && !pairs.append(types[i], values[v])) {
                    return PAIR_TWICE;
                }
            }
            return DONE;
        }
    }

    /** What a search asks for, but for its base and its filters. */
    private static final class Query {
        int scope;
        int limit;
        boolean typesAlone;
        int wantedTypes;

        /** Reads what stands before the filter. */
        void readFrom(Reader in) {
            scope = in.choice(WHOLE_TREE);
            in.choice(MOST_UNUSED_CHOICE);
            limit = in.number();
            if (limit < 0) {
                in.wrong = true;
            }
            in.number();
            typesAlone = in.flag();
        }

        /** Reads what stands behind the filter. */
        void readWantedTypes(Reader in) {
            int around = in.enter(LIST);
            wantedTypes = in.hasMore() ? 0 : EVERY_TYPE;
            for (int i = 0; i < MOST_WANTED && in.hasMore(); i++) {
                in.span(TEXT);
                int type = in.spanType();
                if (type != NONE) {
                    wantedTypes |= 1 << type - FIRST_TYPE;
                }
            }
            in.leave(around);
        }

        boolean wants(int type) {
            return (wantedTypes >> type - FIRST_TYPE & 1) != 0;
        }

        boolean isWithinLimit(int found) {
            return limit == 0 || found <= limit;
        }

        /** Whether an entry is asked for that is so many levels under the base, or NONE if it is not under it. */
        boolean isInScope(int levels) {
            switch (scope) {
                case BASE_ALONE:
                    return levels == 0;
                case CHILDREN:
                    return levels == 1;
                default:
                    return levels >= 0;
            }
        }
    }

    /** Filters in the order in which they begin; each one knows where those inside it end. */
    private static final class Filters {
        final int[] kinds = new int[MOST_FILTERS];
        final int[] types = new int[MOST_FILTERS];
        final long[] values = new long[MOST_FILTERS];
        final int[] ends = new int[MOST_FILTERS];
        int count;

        void readFrom(Reader in) {
            count = 0;
            readOne(in, 1);
        }

        boolean areTrueFor(Pairs pairs) {
            return judge(0, pairs, 1) == TRUE;
        }

        private void readOne(Reader in, int depth) {
            if (depth > MOST_DEEP || count >= MOST_FILTERS) {
                in.wrong = true;
                return;
            }
            int f = count;
            count++;
            kinds[f] = in.nextTag();
            switch (kinds[f]) {
                case ALL:
                case ANY:
                case NOT:
                    readInner(in, f, depth);
                    break;
                case EQUAL:
                case AT_LEAST:
                case AT_MOST:
                    readPair(in, f);
                    break;
                case THERE:
                    in.span(THERE);
                    types[f] = in.spanType();
                    break;
                default:
                    in.wrong = true;
                    break;
            }
            ends[f] = count;
        }

        private void readInner(Reader in, int f, int depth) {
            boolean isNot = kinds[f] == NOT;
            int around = in.enter(kinds[f]);
            if (isNot && !in.hasMore()) {
                in.wrong = true;
            }
            int most = isNot ? 1 : MOST_FILTERS;
            for (int i = 0; i < most && in.hasMore(); i++) {
                readOne(in, depth + 1);
            }
            in.leave(around);
        }

        private void readPair(Reader in, int f) {
            int around = in.enter(kinds[f]);
            in.span(TEXT);
            types[f] = in.spanType();
            in.span(TEXT);
            values[f] = in.spanValue();
            in.leave(around);
        }

        private int judge(int f, Pairs pairs, int depth) {
            if (f >= count || depth > MOST_DEEP) {
                return UNDEFINED;
            }
            switch (kinds[f]) {
                case ALL:
                case ANY:
                    return judgeInner(f, pairs, depth);
                case NOT:
                    return TRUE - judge(f + 1, pairs, depth + 1);
                default:
                    return judgePair(f, pairs);
            }
        }

        private int judgeInner(int f, Pairs pairs, int depth) {
            boolean isAll = kinds[f] == ALL;
            int result = isAll ? TRUE : FALSE;
            int inner = f + 1;
            for (int i = 0; i < MOST_FILTERS && inner < ends[f]; i++) {
                int one = judge(inner, pairs, depth + 1);
                result = isAll ? Math.min(result, one) : Math.max(result, one);
                inner = ends[inner];
            }
            return result;
        }

        private int judgePair(int f, Pairs pairs) {
            int kind = kinds[f];
            boolean isOrder = kind == AT_LEAST || kind == AT_MOST;
            if (types[f] == NONE || (kind != THERE && values[f] == NONE)
                    || (isOrder && types[f] < FIRST_ORDERED_TYPE)) {
                return UNDEFINED;
            }
            long least = kind == EQUAL || kind == AT_LEAST ? values[f] : 0;
            long greatest = kind == EQUAL || kind == AT_MOST ? values[f] : GREATEST_VALUE;
            return pairs.hasBetween(types[f], least, greatest) ? TRUE : FALSE;
        }
    }
}
