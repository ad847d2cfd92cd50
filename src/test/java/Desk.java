import java.util.ArrayList;
import java.util.List;

/** A desk under test: sends whole messages to it and reads whole answers from it. */
final class Desk {
    final DirectoryDesk desk = new DirectoryDesk();
    private final Checks checks;
    private int calls;

    Desk(Checks checks) {
        this.checks = checks;
    }

    static Desk signedOn(Checks checks) {
        Desk desk = new Desk(checks);
        desk.gives("sign on", Bytes.sign(3, "a=r", "x"), 0);
        return desk;
    }

    void type(byte[] bytes) {
        for (int from = 0; from < bytes.length; from += 8) {
            int to = Math.min(from + 8, bytes.length);
            long number = 0;
            for (int i = from; i < to; i++) {
                number = number << 8 | bytes[i] & 255;
            }
            desk.type(number, to - from);
            calls++;
        }
    }

    int sendRaw(byte[] bytes) {
        type(bytes);
        calls++;
        // What an object answers after 512 calls is free: no test may look at it.
        if (calls > 480) {
            checks.same("calls of one object, few others aside", calls, "at most 480");
        }
        return desk.handle();
    }

    /** Sends an operation with the id 7: its code. */
    int code(byte[] operation) {
        return sendRaw(Bytes.message(7, operation));
    }

    /** The code of an operation on a new desk where nobody is signed on. */
    static int codeForNobody(Checks checks, byte[] operation) {
        return new Desk(checks).code(operation);
    }

    /** The code of an operation on a new desk where a=r is signed on. */
    static int codeWhenSigned(Checks checks, byte[] operation) {
        return signedOn(checks).code(operation);
    }

    /** Adds an entry that has its own part and no other pair. */
    void add(String name) {
        int comma = name.indexOf(',');
        String value = comma < 0 ? name.substring(2) : name.substring(2, comma);
        gives("add " + name, Bytes.add(name, Bytes.attribute(name.substring(0, 1), value)), 0);
    }

    /** All entries as they are told, one behind the other. */
    String shownAll() {
        StringBuilder shown = new StringBuilder();
        for (int e = 0; e < desk.entries(); e++) {
            shown.append(e == 0 ? "" : " / ").append(shown(e));
        }
        return shown.toString();
    }

    /** Sends an operation with the id 7, checks its code and the answer's last element without a nearest name. */
    void gives(String what, byte[] operation, int code) {
        gives(what, operation, code, "");
    }

    void gives(String what, byte[] operation, int code, String nearest) {
        checks.same(what, sendRaw(Bytes.message(7, operation)), code);
        byte[] last = Bytes.last(7, doneTag(operation), code, nearest);
        byte[] answer = answer();
        int from = Math.max(0, answer.length - last.length);
        byte[] end = java.util.Arrays.copyOfRange(answer, from, answer.length);
        checks.same(what + ", what is answered last", Bytes.shown(end), Bytes.shown(last));
    }

    /** Sends an operation with the id 7 and checks that the answer is just these elements. */
    void answers(String what, byte[] operation, byte[]... elements) {
        sendRaw(Bytes.message(7, operation));
        checks.same(what, Bytes.shown(answer()), Bytes.shown(Bytes.join(elements)));
    }

    /** Sends bytes that close the line, checks all that follows from it, and connects again. */
    void closes(String what, byte[] bytes) {
        checks.same(what, sendRaw(bytes), DirectoryDesk.CLOSED);
        checks.same(what + ", open", desk.open(), false);
        checks.same(what + ", signed", desk.signed(), false);
        checks.same(what + ", answered", desk.answered(), 0);
        desk.connect();
    }

    /** The names of the entries that a search with this filter finds, over the whole tree. */
    String names(byte[] filter) {
        return names("", 2, 0, filter);
    }

    /** As few bytes as can be are asked for, so that all of the entries find room. */
    String names(String base, int scope, int limit, byte[] filter) {
        sendRaw(Bytes.message(0, Bytes.search(base, scope, limit, 1, filter, "-")));
        byte[] answer = answer();
        List<String> names = new ArrayList<>();
        int from = 0;
        while (from + 8 < answer.length && (answer[from + 5] & 255) == 100) {
            names.add(new String(answer, from + 9, answer[from + 8], java.nio.charset.StandardCharsets.ISO_8859_1));
            from += 2 + answer[from + 1];
        }
        return String.join(" ", names);
    }

    byte[] answer() {
        byte[] answer = new byte[desk.answered()];
        calls++;
        for (int from = 0; from < answer.length; from += 7) {
            long number = desk.answer(from);
            calls++;
            int to = Math.min(from + 7, answer.length);
            for (int i = to - 1; i >= from; i--) {
                answer[i] = (byte) number;
                number >>= 8;
            }
        }
        return answer;
    }

    /** Entry e as the number of its parts and its pairs, such as "2: b=1 d=20". */
    String shown(int e) {
        int head = desk.entry(e);
        StringBuilder shown = new StringBuilder().append(head % 8).append(':');
        for (int k = 0; k < head / 8; k++) {
            shown.append(' ').append((char) desk.pairType(e, k)).append('=').append(value(desk.pairValue(e, k)));
        }
        return shown.toString();
    }

    private static String value(long number) {
        StringBuilder value = new StringBuilder();
        for (int shift = 56; shift >= 0; shift -= 8) {
            int letter = (int) (number >> shift & 255);
            if (letter != 0) {
                value.append((char) letter);
            }
        }
        return value.toString();
    }

    private static int doneTag(byte[] operation) {
        switch (operation[0]) {
            case 96:
                return 97;
            case 99:
                return 101;
            case 102:
                return 103;
            case 104:
                return 105;
            default:
                return 107;
        }
    }
}
