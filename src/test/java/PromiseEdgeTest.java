/** The edges of the promises 1 to 12, call by call, and of how often an object is used. */
public final class PromiseEdgeTest {
    private static final int CLOSED = DirectoryDesk.CLOSED;
    private static final int BAD = DirectoryDesk.BAD;

    public static void main(String[] args) {
        Checks checks = new Checks("PromiseEdgeTest");
        calls(checks);
        callsThatSearch(checks);
        constants(checks);
        newObject(checks);
        connectOpens(checks);
        connectKeepsTheAnswer(checks);
        typeTakesTheLowest(checks);
        typeHowMany(checks);
        typeAtMost(checks);
        typeWhenClosed(checks);
        handleWhatIsTyped(checks);
        handleReplacesTheAnswer(checks);
        handleCloses(checks);
        handleWhenClosed(checks);
        answered(checks);
        answerBytes(checks);
        answerOfNoByte(checks);
        answerOfHighBytes(checks);
        entries(checks);
        entry(checks);
        entryOfNone(checks);
        pairType(checks);
        pairValue(checks);
        signed(checks);
        open(checks);
        checks.end();
    }

    private static void calls(Checks checks) {
        Sentence s = new Sentence(checks, "An object is used for at most 512 calls after it has been made; what later calls"
                + " answer is free.");
        DirectoryDesk x = new DirectoryDesk();
        int calls = type(x, Bytes.message(7, Bytes.sign(3, "a=r", "x")));
        s.inside("call 4", x.handle(), 0);
        calls++;
        byte[] delete = Bytes.message(7, Bytes.delete("a=r"));
        for (; calls < 512 - 3; calls++) {
            s.inside("call " + (calls + 1), x.entries(), 1);
        }
        calls += type(x, delete);
        calls++;
        s.inside("the last call is number", calls, 512);
        s.inside("call 512", x.handle(), 0);
        s.outside("later calls end", laterCallsEnd(x), true);
        s.end();
    }

    private static int type(DirectoryDesk x, byte[] bytes) {
        int calls = 0;
        for (int from = 0; from < bytes.length; from += 8) {
            int to = Math.min(bytes.length, from + 8);
            long number = 0;
            for (int i = from; i < to; i++) {
                number = number << 8 | bytes[i] & 255;
            }
            x.type(number, to - from);
            calls++;
        }
        return calls;
    }

    /** What they answer is free, but none may throw. */
    private static boolean laterCallsEnd(DirectoryDesk x) {
        byte[] search = Bytes.message(7, Bytes.search("", 2, 0, 0, Bytes.all()));
        for (int i = 0; i < 2000; i++) {
            type(x, search);
            x.handle();
            x.answer(i);
            x.entry(i);
            x.pairType(i, i);
            x.pairValue(0, i);
            if (i % 100 == 0) {
                x.connect();
            }
        }
        return true;
    }

    private static void callsThatSearch(Checks checks) {
        Sentence s = new Sentence(checks, "An object is used for at most 512 calls after it has been made");
        // It is typed by five calls.
        byte[] search = Bytes.message(7, Bytes.search("", 2, 0, 0, Bytes.there("a"), "a", "f"));
        DirectoryDesk x = new DirectoryDesk();
        int calls = 0;
        for (int i = 0; i < 64; i++) {
            calls += type(x, search);
            s.inside("search " + i, x.handle(), 0);
            s.inside("its bytes " + i, x.answered(), 48);
            s.inside("its answer " + i, x.answer(0), 0x3020020107641bL);
            calls += 3;
        }
        s.inside("they are calls", calls, 512);
        s.outside("later calls end", laterCallsEnd(x), true);
        s.end();
    }

    private static void constants(Checks checks) {
        Sentence closed = new Sentence(checks, "The line is closed.");
        closed.inside("the number", new DirectoryDesk().handle(), -1);
        closed.inside("the constant", DirectoryDesk.CLOSED, -1);
        closed.outside("on an open line", Desk.codeForNobody(checks, Bytes.delete("a=r")), 50);
        closed.end();
        Sentence bad = new Sentence(checks, "An argument is out of its bounds, or there is no such thing.");
        bad.inside("the number", new DirectoryDesk().type(0, 9), -2);
        bad.inside("no such entry", new DirectoryDesk().entry(1), -2);
        bad.inside("the constant", DirectoryDesk.BAD, -2);
        bad.outside("within its bounds", new DirectoryDesk().type(0, 8), 8);
        bad.outside("there is such an entry", new DirectoryDesk().entry(0), 17);
        bad.end();
    }

    private static void newObject(Checks checks) {
        Sentence s = new Sentence(checks, "One entry, the line is open, nobody is signed on, nothing is typed or answered.");
        Desk x = new Desk(checks);
        s.inside("entries", x.shownAll(), "1: a=r f=x");
        s.outside("entry 1", x.desk.entry(1), BAD);
        s.inside("open", x.desk.open(), true);
        s.inside("signed", x.desk.signed(), false);
        s.inside("answered", x.desk.answered(), 0);
        s.outside("answer 0", x.desk.answer(0), -1L);
        s.inside("typed", x.desk.type(0, 1), 1);
        s.inside("200 can be typed", typedInAll(new DirectoryDesk()), 200);
        s.outside("handle before anything is typed", new DirectoryDesk().handle(), CLOSED);
        Desk changed = Desk.signedOn(checks);
        changed.add("b=1");
        s.inside("another object is not changed by it", new Desk(checks).shownAll(), "1: a=r f=x");
        s.end();
    }

    private static int typedInAll(DirectoryDesk x) {
        int typed = 0;
        for (int i = 0; i < 300; i++) {
            typed = Math.max(typed, x.type(0, 1));
        }
        return typed;
    }

    private static void connectOpens(Checks checks) {
        Sentence s = new Sentence(checks, "The line is open from now on, nobody is signed on, nothing is typed.");
        Desk x = Desk.signedOn(checks);
        x.desk.type(48, 8);
        s.outside("before it", x.desk.open() + " " + x.desk.signed() + " " + x.desk.type(0, 1), "true true 9");
        x.desk.connect();
        s.inside("an open line", x.desk.open() + " " + x.desk.signed() + " " + x.desk.type(0, 1), "true false 1");
        x.desk.handle();
        s.outside("a line that is closed", x.desk.open() + " " + x.desk.signed() + " " + x.desk.type(0, 1), "false false -1");
        x.desk.connect();
        s.inside("open again", x.desk.open() + " " + x.desk.signed() + " " + x.desk.type(0, 1), "true false 1");
        x.desk.connect();
        x.desk.connect();
        s.inside("twice", x.desk.open() + " " + x.desk.signed() + " " + x.desk.type(0, 1), "true false 1");
        x.desk.connect();
        s.inside("200 can be typed", typedInAll(x.desk), 200);
        x.desk.connect();
        s.inside("a full line is emptied", x.desk.type(0, 8), 8);
        x.desk.connect();
        s.inside("nothing of it is left", x.code(Bytes.delete("a=r")), 50);
        s.inside("the entries stay", x.shownAll(), "1: a=r f=x");
        s.end();
    }

    private static void connectKeepsTheAnswer(Checks checks) {
        Sentence s = new Sentence(checks, "(The answer stays.)");
        Desk x = new Desk(checks);
        x.code(Bytes.search("", 2, 0, 0, Bytes.all()));
        String answer = Bytes.shown(x.answer());
        x.desk.connect();
        s.inside("it stays", Bytes.shown(x.answer()), answer);
        x.desk.handle();
        s.outside("closing empties it", x.desk.answered(), 0);
        x.desk.connect();
        s.outside("an empty one stays empty", x.desk.answered(), 0);
        s.end();
    }

    private static void typeTakesTheLowest(Checks checks) {
        Sentence s = new Sentence(checks, "Types n bytes: the lowest n of bytes, the highest of them first: how many are"
                + " typed.");
        byte[] message = Bytes.of(48, 14, 2, 1, 9, 74, 9, 'a', '=', 'q', ',', 'a', '=', 'q', ',', 'a');
        // An n that does not divide its sixteen bytes leaves a shorter piece at the end.
        for (int n = 1; n <= 8; n++) {
            for (long above : new long[] {0, -1, 0x5555555555555555L}) {
                Desk x = new Desk(checks);
                int typed = 0;
                for (int from = 0; from < message.length; from += n) {
                    int count = Math.min(n, message.length - from);
                    long number = above;
                    for (int i = from; i < from + count; i++) {
                        number = number << 8 | message[i] & 255;
                    }
                    typed += count;
                    s.inside("how many are typed by " + n, x.desk.type(number, count), typed);
                }
                s.inside("by " + n + " at once", x.desk.handle(), 50);
                s.inside("by " + n + " at once, the answer", x.desk.answer(0), 0x300c0201096b07L);
            }
        }
        Desk x = new Desk(checks);
        x.desk.type(0x004a090102053048L, 7);
        s.outside("the lowest of them first is no message", x.desk.handle(), CLOSED);
        s.end();
    }

    private static void typeHowMany(Checks checks) {
        Sentence s = new Sentence(checks, "otherwise BAD when n is not 1 .. 8");
        int[] outside = {Integer.MIN_VALUE, Integer.MIN_VALUE + 1, -200, -8, -1, 0, 9, 10, 16, 200, 256, 257,
            Integer.MAX_VALUE - 8, Integer.MAX_VALUE - 1, Integer.MAX_VALUE};
        for (int n : outside) {
            DirectoryDesk x = new DirectoryDesk();
            s.outside(n + " bytes", x.type(1, n), BAD);
            s.outside(n + " bytes type nothing", x.type(1, 1), 1);
            s.outside(n + " bytes behind one", x.type(1, n), BAD);
            s.outside(n + " bytes type nothing again", x.type(1, 8), 9);
        }
        for (int n = 1; n <= 8; n++) {
            s.inside(n + " bytes", new DirectoryDesk().type(1, n), n);
        }
        s.end();
    }

    private static void typeAtMost(Checks checks) {
        Sentence s = new Sentence(checks, "or there would be more than 200.");
        for (int before = 192; before <= 200; before++) {
            for (int n = 1; n <= 8; n++) {
                DirectoryDesk x = new DirectoryDesk();
                for (int i = 0; i < before; i++) {
                    x.type(0, 1);
                }
                boolean isIn = before + n <= 200;
                s.side(isIn, before + " and " + n, x.type(0, n), isIn ? before + n : BAD);
                if (!isIn && before < 200) {
                    s.outside(before + " and " + n + " type nothing", x.type(0, 200 - before), 200);
                }
            }
        }
        Desk x = new Desk(checks);
        s.inside("a message of 200 bytes", x.sendRaw(Bytes.message(7, Bytes.element(74, new byte[191]))), 50);
        x.type(Bytes.message(7, Bytes.element(74, new byte[191])));
        s.outside("one byte more", x.desk.type(0, 1), BAD);
        s.inside("the message is not hurt by it", x.desk.handle(), 50);
        s.end();
    }

    private static void typeWhenClosed(Checks checks) {
        Sentence s = new Sentence(checks, "CLOSED when the line is closed");
        DirectoryDesk x = new DirectoryDesk();
        s.outside("an open line", x.type(0, 0), BAD);
        x.handle();
        for (int n : new int[] {Integer.MIN_VALUE, -1, 0, 1, 8, 9, Integer.MAX_VALUE}) {
            s.inside(n + " bytes", x.type(0, n), CLOSED);
        }
        x.connect();
        s.outside("nothing was typed", x.type(0, 1), 1);
        s.end();
    }

    private static void handleWhatIsTyped(Checks checks) {
        Sentence s = new Sentence(checks, "Handles what is typed as a message, and nothing is typed then: its code");
        Desk x = new Desk(checks);
        s.inside("a code", x.code(Bytes.delete("a=r")), 50);
        s.inside("nothing is typed then", x.desk.type(0, 1), 1);
        s.outside("a message behind another byte", x.code(Bytes.delete("a=r")), CLOSED);
        x.desk.connect();
        s.inside("malformed", x.code(Bytes.element(96)), 2);
        s.inside("nothing is typed then either", x.desk.type(0, 8), 8);
        x.desk.connect();
        s.inside("once", x.code(Bytes.delete("a=r")), 50);
        s.outside("not again", x.desk.handle(), CLOSED);
        s.end();
    }

    private static void handleReplacesTheAnswer(Checks checks) {
        Sentence s = new Sentence(checks, "and the answer takes the place of the one before");
        Desk x = new Desk(checks);
        x.code(Bytes.delete("a=r"));
        s.inside("an answer", Bytes.shown(x.answer()), Bytes.shown(Bytes.last(7, 107, 50, "")));
        x.code(Bytes.search("", 2, 0, 0, Bytes.all(), "a"));
        byte[] longer = Bytes.join(Bytes.found(7, "a=r", Bytes.attribute("a", "r")), Bytes.last(7, 101, 0, ""));
        s.inside("a longer one", Bytes.shown(x.answer()), Bytes.shown(longer));
        x.type(Bytes.of(0));
        s.outside("typing leaves it", Bytes.shown(x.answer()), Bytes.shown(longer));
        x.desk.connect();
        x.code(Bytes.element(99));
        s.inside("a shorter one", Bytes.shown(x.answer()), Bytes.shown(Bytes.last(7, 101, 2, "")));
        s.inside("nothing of the longer one", x.desk.answer(14), -1L);
        s.end();
    }

    private static void handleCloses(Checks checks) {
        Sentence s = new Sentence(checks,
                "CLOSED when the line is closed then (then nobody is signed on, and the answer is empty)");
        for (byte[] bytes : new byte[][] {Bytes.of(), Bytes.of(48), Bytes.message(7, Bytes.leave()), Bytes.of(48, 0)}) {
            Desk x = Desk.signedOn(checks);
            s.outside("before it", x.desk.open() + " " + x.desk.signed() + " " + x.desk.answered(), "true true 14");
            s.inside("its answer", x.sendRaw(bytes), CLOSED);
            s.inside("what is told", x.desk.open() + " " + x.desk.signed() + " " + x.desk.answered(), "false false 0");
            s.inside("no byte is answered", x.desk.answer(0), -1L);
            x.desk.connect();
            s.inside("nothing is typed", x.desk.type(0, 1), 1);
        }
        s.end();
    }

    private static void handleWhenClosed(Checks checks) {
        Sentence s = new Sentence(checks, "or was before (then nothing happens).");
        Desk x = Desk.signedOn(checks);
        x.add("b=1");
        x.sendRaw(Bytes.message(7, Bytes.leave()));
        for (int i = 0; i < 3; i++) {
            s.inside("handle", x.desk.handle(), CLOSED);
            s.inside("what is told", x.desk.open() + " " + x.desk.signed() + " " + x.desk.answered() + " " + x.shownAll(),
                    "false false 0 1: a=r f=x / 1: b=1");
        }
        x.type(Bytes.message(7, Bytes.sign(3, "a=r", "x")));
        s.inside("nothing can be typed", x.desk.handle(), CLOSED);
        x.desk.connect();
        s.outside("after connect", x.code(Bytes.sign(3, "a=r", "x")), 0);
        s.end();
    }

    private static void answered(Checks checks) {
        Sentence s = new Sentence(checks, "How many bytes the answer has.");
        Desk x = Desk.signedOn(checks);
        s.inside("one that is 14 bytes long", x.desk.answered(), 14);
        x.code(Bytes.delete("b=1,a=r"));
        s.inside("with a nearest name", x.desk.answered(), 17);
        x.sendRaw(Bytes.message(128, Bytes.delete("b=1,a=r")));
        s.inside("with an id of two bytes", x.desk.answered(), 18);
        x.desk.handle();
        s.outside("none", x.desk.answered(), 0);
        s.end();
    }

    private static void answerBytes(Checks checks) {
        Sentence s = new Sentence(checks, "The bytes i .. i + 6 of the answer, as far as there are any (fewer at the end: a"
                + " shorter number), read as one number, the first one highest");
        for (String name : new String[] {"a=s", "b=1,a=r", "b=1,c=1,a=r"}) {
            Desk x = Desk.signedOn(checks);
            x.code(Bytes.delete(name));
            byte[] due = Bytes.last(7, 107, 32, name.equals("a=s") ? "" : "a=r");
            for (int i = 0; i < due.length; i++) {
                long number = 0;
                int count = Math.min(7, due.length - i);
                for (int k = i; k < i + count; k++) {
                    number = number * 256 + (due[k] & 255);
                }
                s.side(count == 7, "from byte " + i + ", " + count + " bytes", x.desk.answer(i), number);
            }
        }
        s.end();
    }

    private static void answerOfNoByte(Checks checks) {
        Sentence s = new Sentence(checks, "-1 when there is no byte i.");
        Desk x = Desk.signedOn(checks);
        for (int i : new int[] {Integer.MIN_VALUE, -7, -6, -1, 14, 15, 20, 299, 300, 460, Integer.MAX_VALUE - 6, Integer.MAX_VALUE}) {
            s.outside("byte " + i, x.desk.answer(i), -1L);
        }
        s.inside("the first byte", x.desk.answer(0), 0x300c0201076107L);
        s.inside("the last byte, which is 0", x.desk.answer(13), 0L);
        x.desk.handle();
        s.outside("byte 0 of an empty answer", x.desk.answer(0), -1L);
        s.end();
    }

    private static void answerOfHighBytes(Checks checks) {
        Sentence s = new Sentence(checks, "read as one number, the first one highest");
        Desk x = new Desk(checks);
        x.sendRaw(Bytes.message(255, Bytes.delete("")));
        s.inside("255 in the middle", x.desk.answer(0), 0x300d020200ff6bL);
        s.inside("255 as the highest", x.desk.answer(5), 0xff6b070a013204L);
        x.sendRaw(Bytes.message(32767, Bytes.delete("")));
        s.inside("127 and 255 as the highest", x.desk.answer(4), 0x7fff6b070a0132L);
        s.outside("two bytes at the end", x.desk.answer(13), 0x0400L);
        s.end();
    }

    private static void entries(Checks checks) {
        Sentence s = new Sentence(checks, "How many entries there are.");
        Desk x = Desk.signedOn(checks);
        s.inside("one", x.desk.entries(), 1);
        x.gives("it goes", Bytes.delete("a=r"), 0);
        s.inside("none", x.desk.entries(), 0);
        for (int i = 1; i <= 16; i++) {
            x.add("b=" + i);
            s.inside(i + " of them", x.desk.entries(), i);
        }
        x.gives("one too many", Bytes.add("c=1", Bytes.attribute("c", "1")), 53);
        s.outside("not 17", x.desk.entries(), 16);
        x.desk.handle();
        s.inside("on a closed line", x.desk.entries(), 16);
        s.end();
    }

    private static void entry(Checks checks) {
        Sentence s = new Sentence(checks, "The number of entry e's parts, plus 8 times the number of its pairs.");
        Desk x = Desk.signedOn(checks);
        String name = "a=r";
        for (int parts = 2; parts <= 4; parts++) {
            name = "b=1," + name;
            x.add(name);
            s.inside(parts + " parts", x.desk.entry(parts - 1), parts + 8);
        }
        for (int pairs = 2; pairs <= 6; pairs++) {
            x.gives("more", Bytes.modify(name, Bytes.change(0, "c", "" + pairs)), 0);
            s.inside(pairs + " pairs", x.desk.entry(3), 4 + 8 * pairs);
        }
        x.gives("too many", Bytes.modify(name, Bytes.change(0, "c", "7")), 53);
        s.outside("not seven pairs", x.desk.entry(3), 4 + 8 * 6);
        s.inside("the first one", x.desk.entry(0), 1 + 8 * 2);
        s.end();
    }

    private static void entryOfNone(Checks checks) {
        Sentence s = new Sentence(checks, "BAD when there is no entry e (from 0, in their order).");
        Desk x = Desk.signedOn(checks);
        for (int count = 1; count <= 16; count++) {
            if (count > 1) {
                x.add("b=" + count);
            }
            s.inside("the last of " + count, x.desk.entry(count - 1), count == 1 ? 17 : 9);
            s.outside("behind the last of " + count, x.desk.entry(count), BAD);
        }
        for (int e : new int[] {Integer.MIN_VALUE, -16, -1, 17, 255, Integer.MAX_VALUE}) {
            s.outside("entry " + e, x.desk.entry(e), BAD);
        }
        for (int count = 15; count >= 1; count--) {
            x.gives("the last goes", Bytes.delete("b=" + (count + 1)), 0);
            s.outside("what is gone", x.desk.entry(count), BAD);
        }
        x.gives("the first goes", Bytes.delete("a=r"), 0);
        s.outside("entry 0 of none", x.desk.entry(0), BAD);
        s.end();
    }

    /** Two entries: a=r with two pairs, b=1 with six. */
    private static Desk two(Checks checks) {
        Desk x = Desk.signedOn(checks);
        x.gives("add", Bytes.add("b=1", Bytes.attribute("f", "z"), Bytes.attribute("b", "1"), Bytes.attribute("a", "0"),
                Bytes.attribute("e", "zzzzzzzz"), Bytes.attribute("d", "00000000"), Bytes.attribute("c", "abcdefgh")), 0);
        return x;
    }

    private static void pairType(Checks checks) {
        Sentence s = new Sentence(checks, "The type's byte of pair k of entry e (both from 0); -1 when there is none.");
        Desk x = two(checks);
        String types = "fbaedc";
        for (int k = 0; k < 6; k++) {
            s.inside("pair " + k, x.desk.pairType(1, k), (int) types.charAt(k));
        }
        s.inside("the last of entry 0", x.desk.pairType(0, 1), (int) 'f');
        s.outside("behind the last of entry 0", x.desk.pairType(0, 2), -1);
        for (int n : new int[] {Integer.MIN_VALUE, -1, 6, 7, 30, Integer.MAX_VALUE}) {
            s.outside("pair " + n, x.desk.pairType(1, n), -1);
        }
        for (int n : new int[] {Integer.MIN_VALUE, -1, 2, 15, 16, 17, Integer.MAX_VALUE}) {
            s.outside("entry " + n, x.desk.pairType(n, 0), -1);
            s.outside("both " + n, x.desk.pairType(n, n), -1);
        }
        x.gives("less", Bytes.modify("b=1", Bytes.change(1, "c")), 0);
        s.outside("a pair that is gone", x.desk.pairType(1, 5), -1);
        x.gives("it goes", Bytes.delete("b=1"), 0);
        s.outside("an entry that is gone", x.desk.pairType(1, 0), -1);
        s.end();
    }

    private static void pairValue(Checks checks) {
        Sentence s = new Sentence(checks, "The value of pair k of entry e: its first byte times 2^56, the second one times"
                + " 2^48, and so on; -1 when there is none.");
        Desk x = two(checks);
        long[] values = {0x7a00000000000000L, 0x3100000000000000L, 0x3000000000000000L, 0x7a7a7a7a7a7a7a7aL,
            0x3030303030303030L, 0x6162636465666768L};
        for (int k = 0; k < 6; k++) {
            s.inside("pair " + k, x.desk.pairValue(1, k), values[k]);
        }
        long due = 0;
        for (int length = 1; length <= 8; length++) {
            String value = "abcdefgh".substring(0, length);
            due += (long) value.charAt(length - 1) << 64 - 8 * length;
            Desk y = Desk.signedOn(checks);
            y.gives("instead", Bytes.modify("a=r", Bytes.change(2, "f", value)), 0);
            s.inside(length + " bytes", y.desk.pairValue(0, 1), due);
        }
        s.outside("behind the last of entry 0", x.desk.pairValue(0, 2), -1L);
        for (int n : new int[] {Integer.MIN_VALUE, -1, 6, 7, 30, Integer.MAX_VALUE}) {
            s.outside("pair " + n, x.desk.pairValue(1, n), -1L);
        }
        for (int n : new int[] {Integer.MIN_VALUE, -1, 2, 15, 16, 17, Integer.MAX_VALUE}) {
            s.outside("entry " + n, x.desk.pairValue(n, 0), -1L);
            s.outside("both " + n, x.desk.pairValue(n, n), -1L);
        }
        x.gives("less", Bytes.modify("b=1", Bytes.change(1, "c")), 0);
        s.outside("a pair that is gone", x.desk.pairValue(1, 5), -1L);
        x.gives("it goes", Bytes.delete("b=1"), 0);
        s.outside("an entry that is gone", x.desk.pairValue(1, 0), -1L);
        s.end();
    }

    private static void signed(Checks checks) {
        Sentence s = new Sentence(checks, "Whether somebody is signed on.");
        Desk x = new Desk(checks);
        s.outside("nobody yet", x.desk.signed(), false);
        x.code(Bytes.sign(3, "a=r", "x"));
        s.inside("a=r", x.desk.signed(), true);
        x.code(Bytes.sign(3, "", ""));
        s.outside("as nobody", x.desk.signed(), false);
        x.code(Bytes.sign(3, "a=r", "x"));
        x.code(Bytes.element(96));
        s.inside("after a malformed SIGN", x.desk.signed(), true);
        x.code(Bytes.delete("a=r"));
        s.inside("after its entry is gone", x.desk.signed(), true);
        x.desk.connect();
        s.outside("after connect", x.desk.signed(), false);
        s.end();
    }

    private static void open(Checks checks) {
        Sentence s = new Sentence(checks, "Whether the line is open.");
        Desk x = new Desk(checks);
        s.inside("at first", x.desk.open(), true);
        x.code(Bytes.element(96));
        s.inside("after a malformed SIGN", x.desk.open(), true);
        x.code(Bytes.leave());
        s.outside("after LEAVE", x.desk.open(), false);
        x.desk.connect();
        s.inside("after connect", x.desk.open(), true);
        x.desk.handle();
        s.outside("after no message", x.desk.open(), false);
        x.desk.handle();
        s.outside("after handling on a closed line", x.desk.open(), false);
        s.end();
    }
}
