/** Promises 1, 2, 3, 11 and 12, and how the line closes in promise 4. */
public final class LineTest {
    public static void main(String[] args) {
        Checks checks = new Checks("LineTest");
        newObject(checks);
        connecting(checks);
        typing(checks);
        typingTooMuch(checks);
        bytesInTheirOrder(checks);
        closing(checks);
        handlingWhenClosed(checks);
        signed(checks);
        checks.end();
    }

    private static void newObject(Checks checks) {
        Desk x = new Desk(checks);
        checks.same("new: entries", x.desk.entries(), 1);
        checks.same("new: the entry", x.shown(0), "1: a=r f=x");
        checks.same("new: open", x.desk.open(), true);
        checks.same("new: signed", x.desk.signed(), false);
        checks.same("new: answered", x.desk.answered(), 0);
        checks.same("new: answer", x.desk.answer(0), -1L);
        checks.same("new: nothing is typed", x.desk.type(48, 1), 1);
        checks.same("new: the entry's name", new Desk(checks).names(Bytes.all()), "a=r");
        checks.same("new: objects are apart", new DirectoryDesk().answered(), 0);
    }

    private static void connecting(Checks checks) {
        Desk x = Desk.signedOn(checks);
        int answered = x.desk.answered();
        x.desk.type(1, 5);
        x.desk.connect();
        checks.same("connect: signed", x.desk.signed(), false);
        checks.same("connect: open", x.desk.open(), true);
        checks.same("connect: the answer stays", x.desk.answered(), answered);
        checks.same("connect: nothing is typed", x.desk.type(1, 1), 1);
        x.desk.handle();
        checks.same("closed", x.desk.open(), false);
        x.desk.connect();
        checks.same("connect: open again", x.desk.open(), true);
        checks.same("connect: the empty answer stays", x.desk.answered(), 0);
        checks.same("connect: entries stay", x.desk.entries(), 1);
        x.gives("connect: one can sign on again", Bytes.sign(3, "a=r", "x"), 0);
    }

    private static void typing(Checks checks) {
        DirectoryDesk x = new DirectoryDesk();
        checks.same("type 0 bytes", x.type(1, 0), -2);
        checks.same("type 9 bytes", x.type(1, 9), -2);
        checks.same("type -1 bytes", x.type(1, -1), -2);
        checks.same("type the least number of bytes", x.type(1, Integer.MIN_VALUE), -2);
        checks.same("type the greatest number of bytes", x.type(1, Integer.MAX_VALUE), -2);
        for (int n = 1; n <= 8; n++) {
            checks.same("type " + n + " bytes", x.type(-1, n), n * (n + 1) / 2);
        }
        checks.same("handle", x.handle(), -1);
        checks.same("type when closed", x.type(1, 1), -1);
        checks.same("type 0 bytes when closed", x.type(1, 0), -1);
        checks.same("type 9 bytes when closed", x.type(1, 9), -1);
    }

    private static void typingTooMuch(Checks checks) {
        DirectoryDesk x = new DirectoryDesk();
        for (int i = 1; i <= 24; i++) {
            checks.same("type up to " + 8 * i, x.type(0, 8), 8 * i);
        }
        checks.same("type up to 199", x.type(0, 7), 199);
        checks.same("type up to 201", x.type(0, 2), -2);
        checks.same("type up to 207", x.type(0, 8), -2);
        checks.same("type up to 200", x.type(0, 1), 200);
        checks.same("type one more", x.type(0, 1), -2);

        Desk y = Desk.signedOn(checks);
        checks.same("a message of 200 bytes", y.sendRaw(Bytes.message(7, Bytes.element(74, new byte[191]))), 34);
        checks.same("nothing is typed when it was handled", y.desk.type(0, 1), 1);
        y.desk.connect();
        y.closes("a message of 201 bytes", Bytes.message(7, Bytes.element(74, new byte[192])));
    }

    private static void bytesInTheirOrder(Checks checks) {
        Desk x = new Desk(checks);
        // 48 5 2 1 9 74 0, with bytes above it that are not typed.
        checks.same("the lowest bytes", x.desk.type(0x7f7f300502L, 3), 3);
        checks.same("one byte", x.desk.type(-255, 1), 4);
        checks.same("three more", x.desk.type(0x094a00L, 3), 7);
        checks.same("they are a message", x.desk.handle(), 50);
        checks.same("with the id 9", Bytes.shown(x.answer()), Bytes.shown(Bytes.last(9, 107, 50, "")));

        x.type(Bytes.message(1, Bytes.longElement(74, Bytes.latin("a=r"))));
        checks.same("bytes above 127", x.desk.handle(), 50);
        checks.same("a number below 0", x.desk.type(0xffffffffffffff30L, 1), 1);
        x.type(Bytes.of(5, 2, 1, 9, 74, 0));
        checks.same("is typed by its lowest bytes", x.desk.handle(), 50);
    }

    private static void closing(Checks checks) {
        Desk x = new Desk(checks);
        x.closes("nothing typed", Bytes.of());
        x.closes("leave", Bytes.message(1, Bytes.leave()));
        x.closes("leave with contents", Bytes.message(1, Bytes.element(66, Bytes.of(0))));
        x.gives("sign on", Bytes.sign(3, "a=r", "x"), 0);
        x.closes("leave when signed on", Bytes.message(1, Bytes.leave()));
        x.gives("nobody is signed on behind it", Bytes.delete("a=r"), 50);
        x.gives("sign on again", Bytes.sign(3, "a=r", "x"), 0);
        x.closes("an unknown byte", Bytes.of(0));
        checks.same("entries stay", x.desk.entries(), 1);
    }

    private static void handlingWhenClosed(Checks checks) {
        DirectoryDesk x = new DirectoryDesk();
        x.handle();
        checks.same("handle when closed", x.handle(), -1);
        checks.same("still closed", x.open(), false);
        checks.same("still nothing answered", x.answered(), 0);
        checks.same("entries are told when closed", x.entries(), 1);
        checks.same("an entry is told when closed", x.entry(0), 17);
    }

    private static void signed(Checks checks) {
        Desk x = new Desk(checks);
        x.gives("as nobody", Bytes.sign(3, "", ""), 0);
        checks.same("nobody is signed on", x.desk.signed(), false);
        x.gives("as a=r", Bytes.sign(3, "a=r", "x"), 0);
        checks.same("somebody is signed on", x.desk.signed(), true);
        x.gives("searching keeps it", Bytes.search("", 2, 0, 0, Bytes.all()), 0);
        checks.same("still somebody", x.desk.signed(), true);
        x.gives("as nobody again", Bytes.sign(3, "", ""), 0);
        checks.same("nobody again", x.desk.signed(), false);
    }
}
