/** Promise 4: which bytes are a message, and which operations are malformed. */
public final class ElementTest {
    private static final byte[] ID = Bytes.number(7);
    private static final byte[] DELETE = Bytes.delete("a=r");

    public static void main(String[] args) {
        Checks checks = new Checks("ElementTest");
        noMessages(checks);
        messages(checks);
        ids(checks);
        malformedSign(checks);
        malformedAdd(checks);
        malformedAtTheEnd(checks);
        malformedModify(checks);
        malformedSearch(checks);
        manyChanges(checks);
        manyValues(checks);
        manyWanted(checks);
        checks.end();
    }

    private static void noMessages(Checks checks) {
        Desk x = new Desk(checks);
        x.closes("another tag", Bytes.element(49, ID, DELETE));
        x.closes("a tag alone", Bytes.of(48));
        x.closes("no contents", Bytes.of(48, 0));
        x.closes("no operation", Bytes.element(48, ID));
        x.closes("no id", Bytes.element(48, DELETE));
        x.closes("a byte behind the message", Bytes.join(Bytes.element(48, ID, DELETE), Bytes.of(0)));
        x.closes("a byte behind the operation", Bytes.element(48, ID, DELETE, Bytes.of(0)));
        x.closes("a second operation", Bytes.element(48, ID, DELETE, DELETE));
        x.closes("an operation that is cut off", Bytes.of(48, 6, 2, 1, 7, 74, 2, 97));
        x.closes("a message that is cut off", Bytes.of(48, 7, 2, 1, 7, 74, 1, 97));
        x.closes("an operation that is only a tag", Bytes.of(48, 4, 2, 1, 7, 74));
        x.closes("an operation's long length that is cut off", Bytes.of(48, 5, 2, 1, 7, 74, 129));
        x.closes("a message's long length that is cut off", Bytes.of(48, 129));
        x.closes("the length 128", Bytes.of(48, 5, 2, 1, 7, 74, 128));
        x.closes("the length 128 of the message", Bytes.of(48, 128, 5, 2, 1, 7, 74, 0));
        x.closes("the length 130", Bytes.of(48, 8, 2, 1, 7, 74, 130, 0, 1, 97));
        x.closes("the length 255", Bytes.of(48, 5, 2, 1, 7, 74, 255));
        x.closes("a long length beyond the bytes", Bytes.of(48, 129, 255, 2, 1, 7, 74, 0));
        int[] others = {0, 2, 48, 64, 67, 73, 75, 95, 97, 98, 100, 101, 103, 105, 194, 224, 255};
        for (int tag : others) {
            x.closes("an operation with the tag " + tag, Bytes.element(48, ID, Bytes.element(tag)));
        }
    }

    private static void messages(Checks checks) {
        Desk x = new Desk(checks);
        checks.same("short lengths", x.sendRaw(Bytes.element(48, ID, DELETE)), 50);
        checks.same("a long length round it", x.sendRaw(Bytes.longElement(48, ID, DELETE)), 50);
        byte[] longDelete = Bytes.longElement(74, Bytes.latin("a=r"));
        checks.same("a long length inside", x.sendRaw(Bytes.element(48, ID, longDelete)), 50);
        checks.same("a long length of 0", x.sendRaw(Bytes.element(48, ID, Bytes.longElement(74))), 50);
        checks.same("a long id", x.sendRaw(Bytes.element(48, Bytes.longElement(2, Bytes.of(7)), DELETE)), 50);
        checks.same("the length 127", x.sendRaw(Bytes.element(48, ID, Bytes.of(74, 122), new byte[122])), 50);
        checks.same("the length 128", x.sendRaw(Bytes.element(48, ID, Bytes.of(74, 123), new byte[123])), 50);
        byte[] operations = Bytes.of(96, 99, 102, 104);
        for (byte tag : operations) {
            x.gives("empty contents of " + tag, Bytes.element(tag), 2);
            x.gives("other contents of " + tag, Bytes.element(tag, Bytes.of(0, 0, 0)), 2);
        }
        x.gives("a delete of nothing", Bytes.element(74), 50);
        x.gives("a delete of any bytes", Bytes.element(74, Bytes.of(4, 200, 0)), 50);
    }

    private static void ids(Checks checks) {
        Desk x = new Desk(checks);
        x.closes("an id of no bytes", Bytes.element(48, Bytes.of(2, 0), DELETE));
        x.closes("an id of three bytes", Bytes.element(48, Bytes.of(2, 3, 0, 0, 1), DELETE));
        x.closes("an id with another tag", Bytes.element(48, Bytes.of(10, 1, 7), DELETE));
        x.closes("the id -1", Bytes.element(48, Bytes.of(2, 1, 255), DELETE));
        x.closes("the id -128", Bytes.element(48, Bytes.of(2, 1, 128), DELETE));
        x.closes("the id -1 in two bytes", Bytes.element(48, Bytes.of(2, 2, 255, 255), DELETE));
        x.closes("the id -32768", Bytes.element(48, Bytes.of(2, 2, 128, 0), DELETE));
        idAnswers(checks, x, Bytes.of(2, 1, 0), 0);
        idAnswers(checks, x, Bytes.of(2, 1, 127), 127);
        idAnswers(checks, x, Bytes.of(2, 2, 0, 0), 0);
        idAnswers(checks, x, Bytes.of(2, 2, 0, 127), 127);
        idAnswers(checks, x, Bytes.of(2, 2, 0, 128), 128);
        idAnswers(checks, x, Bytes.of(2, 2, 0, 255), 255);
        idAnswers(checks, x, Bytes.of(2, 2, 1, 0), 256);
        idAnswers(checks, x, Bytes.of(2, 2, 127, 255), 32767);
    }

    private static void idAnswers(Checks checks, Desk x, byte[] id, int number) {
        checks.same("the id " + number, x.sendRaw(Bytes.element(48, id, DELETE)), 50);
        byte[] due = Bytes.last(number, 107, 50, "");
        checks.same("the id " + number + " answered", Bytes.shown(x.answer()), Bytes.shown(due));
    }

    private static void malformedSign(Checks checks) {
        Desk x = Desk.signedOn(checks);
        byte[] version = Bytes.number(3);
        byte[] name = Bytes.text("a=r");
        byte[] password = Bytes.element(128, Bytes.latin("x"));
        x.gives("no password", Bytes.element(96, version, name), 2);
        x.gives("a password that is a text", Bytes.element(96, version, name, Bytes.text("x")), 2);
        x.gives("no name", Bytes.element(96, version, password), 2);
        x.gives("no version", Bytes.element(96, name, password), 2);
        x.gives("a version of three bytes", Bytes.element(96, Bytes.of(2, 3, 0, 0, 3), name, password), 2);
        x.gives("a byte behind the password", Bytes.element(96, version, name, password, Bytes.of(0)), 2);
        x.gives("a password that is cut off", Bytes.element(96, version, name, Bytes.of(128, 2, 120)), 2);
        checks.same("one stays signed on", x.desk.signed(), true);
        x.gives("a version in two bytes", Bytes.element(96, Bytes.of(2, 2, 0, 3), name, password), 0);
    }

    private static void malformedAdd(Checks checks) {
        Desk x = Desk.signedOn(checks);
        byte[] name = Bytes.text("b=1");
        byte[] own = Bytes.attribute("b", "1");
        x.gives("no attributes", Bytes.element(104, name), 2);
        x.gives("no name", Bytes.element(104, Bytes.element(48, own)), 2);
        x.gives("another tag of the list", Bytes.element(104, name, Bytes.element(49, own)), 2);
        x.gives("a byte behind the list", Bytes.element(104, name, Bytes.element(48, own), Bytes.of(0)), 2);
        x.gives("a byte in the list", Bytes.add("b=1", own, Bytes.of(48)), 2);
        x.gives("a text in the list", Bytes.add("b=1", own, Bytes.text("c")), 2);
        x.gives("no values", Bytes.add("b=1", own, Bytes.element(48, Bytes.text("c"))), 2);
        x.gives("no type", Bytes.add("b=1", own, Bytes.element(48, Bytes.texts(49, "c"))), 2);
        x.gives("another tag of the values", Bytes.add("b=1", own,
                Bytes.element(48, Bytes.text("c"), Bytes.texts(48, "1"))), 2);
        x.gives("something behind the values", Bytes.add("b=1", own,
                Bytes.element(48, Bytes.text("c"), Bytes.texts(49, "1"), Bytes.text(""))), 2);
        x.gives("an attribute behind the values", Bytes.add("b=1",
                Bytes.element(48, Bytes.text("b"), Bytes.texts(49, "1"), Bytes.attribute("c", "1"))), 2);
        x.gives("a number among the values", Bytes.add("b=1", own,
                Bytes.element(48, Bytes.text("c"), Bytes.element(49, Bytes.number(1)))), 2);
        x.gives("a change instead of an attribute", Bytes.add("b=1", Bytes.change(0, "b", "1")), 2);
        x.gives("malformed comes before a wrong name", Bytes.element(104, Bytes.text("?")), 2);
        x.desk.connect();
        x.gives("malformed comes before nobody", Bytes.element(104, name), 2);
        checks.same("nothing was added", x.desk.entries(), 1);
    }

    /** What is missing here would stand behind the last byte that can be typed. */
    private static void malformedAtTheEnd(Checks checks) {
        Desk x = Desk.signedOn(checks);
        byte[] name = Bytes.element(4, new byte[188]);
        checks.same("no attributes", x.sendRaw(Bytes.message(7, Bytes.element(104, name))), 2);
        checks.same("no changes", x.sendRaw(Bytes.message(7, Bytes.element(102, name))), 2);
        checks.same("no scope", x.sendRaw(Bytes.message(7, Bytes.element(99, name))), 2);
        byte[] shorter = Bytes.element(4, new byte[187]);
        checks.same("a tag alone", x.sendRaw(Bytes.message(7, Bytes.element(104, shorter, Bytes.of(48)))), 2);
        byte[] shortest = Bytes.element(4, new byte[186]);
        checks.same("a long length alone", x.sendRaw(Bytes.message(7, Bytes.element(104, shortest, Bytes.of(48, 129)))), 2);
        checks.same("an empty list", x.sendRaw(Bytes.message(7, Bytes.element(104, shortest, Bytes.of(48, 0)))), 34);
        checks.same("all of 200 bytes", Bytes.message(7, Bytes.element(104, shortest, Bytes.of(48, 0))).length, 200);
    }

    private static void malformedModify(Checks checks) {
        Desk x = Desk.signedOn(checks);
        byte[] change = Bytes.change(0, "c", "1");
        x.gives("no changes", Bytes.element(102, Bytes.text("a=r")), 2);
        x.gives("a kind above 2", Bytes.modify("a=r", change, Bytes.change(3, "c", "2")), 2);
        x.gives("the kind 255", Bytes.modify("a=r", change, Bytes.change(255, "c", "2")), 2);
        x.gives("no kind", Bytes.modify("a=r", Bytes.attribute("c", "1")), 2);
        x.gives("a kind of two bytes", Bytes.modify("a=r",
                Bytes.element(48, Bytes.of(10, 2, 0, 0), Bytes.attribute("c", "1"))), 2);
        x.gives("a kind of no bytes", Bytes.modify("a=r",
                Bytes.element(48, Bytes.of(10, 0), Bytes.attribute("c", "1"))), 2);
        x.gives("a kind that is a number", Bytes.modify("a=r",
                Bytes.element(48, Bytes.number(0), Bytes.attribute("c", "1"))), 2);
        x.gives("something behind the attribute", Bytes.modify("a=r",
                Bytes.element(48, Bytes.choice(0), Bytes.attribute("c", "1"), Bytes.text(""))), 2);
        x.gives("no attribute", Bytes.modify("a=r", Bytes.element(48, Bytes.choice(0))), 2);
        checks.same("nothing was changed", x.shown(0), "1: a=r f=x");
        x.gives("well formed", Bytes.modify("a=r", change), 0);
    }

    private static void malformedSearch(Checks checks) {
        Desk x = new Desk(checks);
        byte[] all = Bytes.all();
        x.gives("well formed", Bytes.search("", 2, 0, 0, all), 0);
        x.gives("a scope above 2", Bytes.search("", 3, 0, 0, all), 2);
        x.gives("a limit below 0", Bytes.search("", 2, -1, 0, all), 2);
        x.gives("a limit far below 0", Bytes.search("", 2, -32768, 0, all), 2);
        x.gives("the greatest limit", Bytes.search("", 2, 32767, 0, all), 0);
        byte[][] good = {Bytes.text(""), Bytes.choice(2), Bytes.choice(3), Bytes.number(0), Bytes.number(-32768),
            Bytes.flag(255), all, Bytes.texts(48)};
        x.gives("what is not looked at", Bytes.element(99, good), 0);
        withPiece(x, good, 2, Bytes.choice(4), "the other choice above 3");
        withPiece(x, good, 4, Bytes.of(2, 3, 0, 0, 0), "the other number of three bytes");
        withPiece(x, good, 4, Bytes.of(2, 0), "the other number of no bytes");
        withPiece(x, good, 5, Bytes.of(1, 0), "a flag of no bytes");
        withPiece(x, good, 5, Bytes.of(1, 2, 0, 0), "a flag of two bytes");
        withPiece(x, good, 7, Bytes.texts(49), "another tag of the list");
        withPiece(x, good, 7, Bytes.element(48, Bytes.number(1)), "a number in the list");
        for (int i = 0; i < good.length; i++) {
            withPiece(x, good, i, Bytes.of(), "without piece " + i);
            withPiece(x, good, i, Bytes.join(good[i], Bytes.of(5, 0)), "something behind piece " + i);
            withPiece(x, good, i, Bytes.of(5, 0), "another tag of piece " + i);
        }
    }

    private static void withPiece(Desk x, byte[][] good, int place, byte[] piece, String what) {
        byte[][] pieces = good.clone();
        pieces[place] = piece;
        x.gives(what, Bytes.element(99, pieces), 2);
    }

    private static void manyChanges(Checks checks) {
        Desk x = Desk.signedOn(checks);
        byte[] none = Bytes.attribute("c");
        x.gives("13 attributes", Bytes.add("b=1", repeated(none, 13)), 2);
        x.gives("12 attributes", Bytes.add("b=1", repeated(none, 12)), 64);
        byte[] change = Bytes.change(2, "c");
        x.gives("13 changes", Bytes.modify("a=r", repeated(change, 13)), 2);
        x.gives("12 changes", Bytes.modify("a=r", repeated(change, 12)), 0);
    }

    private static void manyValues(Checks checks) {
        Desk x = Desk.signedOn(checks);
        x.gives("25 values", Bytes.add("b=1", Bytes.attribute("b", values(25))), 2);
        x.gives("24 values", Bytes.add("b=1", Bytes.attribute("b", values(24))), 53);
        x.gives("24 values and one", Bytes.add("b=1", Bytes.attribute("b", values(24)), Bytes.attribute("c", "1")), 2);
        x.gives("24 values and none", Bytes.add("b=1", Bytes.attribute("b", values(24)), Bytes.attribute("c")), 53);
        x.gives("25 more values", Bytes.modify("a=r", Bytes.change(0, "b", values(25))), 2);
        x.gives("24 more values", Bytes.modify("a=r", Bytes.change(0, "b", values(24))), 53);
        x.gives("24 values in two changes",
                Bytes.modify("a=r", Bytes.change(2, "b", values(13)), Bytes.change(2, "c", values(11))), 53);
        x.gives("25 values in two changes",
                Bytes.modify("a=r", Bytes.change(2, "b", values(13)), Bytes.change(2, "c", values(12))), 2);
        x.gives("24 values that go again", Bytes.modify("a=r", Bytes.change(0, "b", values(23)),
                Bytes.change(2, "b", "z")), 0);
        checks.same("what stays", x.shown(0), "1: a=r f=x b=z");
    }

    private static void manyWanted(Checks checks) {
        Desk x = new Desk(checks);
        x.gives("12 texts", Bytes.search("", 2, 0, 0, Bytes.all(), values(12)), 0);
        x.gives("13 texts", Bytes.search("", 2, 0, 0, Bytes.all(), values(13)), 2);
        x.gives("12 texts of one type", Bytes.search("", 2, 0, 0, Bytes.all(), "a", "a", "a", "a", "a", "a", "a",
                "a", "a", "a", "a", "a"), 0);
    }

    private static byte[][] repeated(byte[] piece, int times) {
        byte[][] pieces = new byte[times][];
        java.util.Arrays.fill(pieces, piece);
        return pieces;
    }

    private static String[] values(int count) {
        String[] values = new String[count];
        for (int i = 0; i < count; i++) {
            values[i] = String.valueOf((char) (i < 10 ? '0' + i : 'a' + i - 10));
        }
        return values;
    }
}
