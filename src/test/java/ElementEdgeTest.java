/** The edges of bytes, elements, lengths, numbers, choices, flags and texts. */
public final class ElementEdgeTest {
    private static final byte[] ID = Bytes.number(7);
    private static final int CLOSED = DirectoryDesk.CLOSED;
    /** What DELETE, ADD and MODIFY give when they are well formed and nobody is signed on. */
    private static final int NOBODY = 50;

    public static void main(String[] args) {
        Checks checks = new Checks("ElementEdgeTest");
        bytes(checks);
        elements(checks);
        elementsInside(checks);
        shortLengths(checks);
        longLengths(checks);
        lengthsOfTexts(checks);
        justWhatStandsThere(checks);
        justWhatStandsInside(checks);
        whatIsMissingAtTheEnd(checks);
        anyNumber(checks);
        numberSizes(checks);
        numberSigns(checks);
        limitsAndVersions(checks);
        choices(checks);
        flags(checks);
        texts(checks);
        checks.end();
    }

    private static int codeOf(Checks checks, byte[]... pieces) {
        return new Desk(checks).sendRaw(Bytes.join(pieces));
    }

    private static void bytes(Checks checks) {
        Sentence s = new Sentence(checks, "BYTES are 0 .. 255.");
        for (int b : new int[] {0, 1, 127, 128, 254, 255}) {
            s.inside("the byte " + b, idAnswered(checks, 2, 2, 0, b), b);
        }
        for (long number : new long[] {256 + 48, -256 + 48, -1L << 8 | 48, Long.MIN_VALUE + 48}) {
            Desk x = new Desk(checks);
            x.desk.type(number, 1);
            x.type(Bytes.of(5, 2, 1, 7, 74, 0));
            s.outside("only the byte 48 of " + number, x.desk.handle(), NOBODY);
        }
        s.end();
    }

    /** The id that is answered to a message with this NUMBER as its id; CLOSED if it is none. */
    private static int idAnswered(Checks checks, int... number) {
        Desk x = new Desk(checks);
        if (x.sendRaw(Bytes.element(48, Bytes.of(number), Bytes.delete(""))) == CLOSED) {
            return CLOSED;
        }
        byte[] answer = x.answer();
        return answer[3] == 1 ? answer[4] : (answer[4] & 255) << 8 | answer[5] & 255;
    }

    private static void elements(Checks checks) {
        Sentence s = new Sentence(checks, "An ELEMENT is a TAG (a byte), a LENGTH, and so many bytes of CONTENTS.");
        s.inside("a message", codeOf(checks, Bytes.of(48, 5, 2, 1, 7, 74, 0)), NOBODY);
        s.outside("a byte too few for it", codeOf(checks, Bytes.of(48, 6, 2, 1, 7, 74, 0)), CLOSED);
        s.outside("a byte too many for it", codeOf(checks, Bytes.of(48, 4, 2, 1, 7, 74, 0)), CLOSED);
        s.outside("a byte behind it", codeOf(checks, Bytes.of(48, 5, 2, 1, 7, 74, 0, 0)), CLOSED);
        s.outside("the operation behind it", codeOf(checks, Bytes.of(48, 3, 2, 1, 7, 74, 0)), CLOSED);
        s.inside("an operation", codeOf(checks, Bytes.of(48, 7, 2, 1, 7, 74, 2, 97, 97)), NOBODY);
        s.outside("a byte too few for it", codeOf(checks, Bytes.of(48, 7, 2, 1, 7, 74, 3, 97, 97)), CLOSED);
        s.outside("a byte too many for it", codeOf(checks, Bytes.of(48, 7, 2, 1, 7, 74, 1, 97, 97)), CLOSED);
        s.inside("an id", codeOf(checks, Bytes.of(48, 6, 2, 2, 0, 7, 74, 0)), NOBODY);
        s.outside("a byte too many for it", codeOf(checks, Bytes.of(48, 6, 2, 1, 0, 7, 74, 0)), CLOSED);
        s.outside("a byte too few for it", codeOf(checks, Bytes.of(48, 6, 2, 3, 0, 7, 74, 0)), CLOSED);
        s.outside("nothing", codeOf(checks), CLOSED);
        s.outside("a tag without a length", codeOf(checks, Bytes.of(48)), CLOSED);
        s.outside("an operation's tag without a length", codeOf(checks, Bytes.of(48, 4, 2, 1, 7, 74)), CLOSED);
        s.outside("an id's tag without a length", codeOf(checks, Bytes.of(48, 1, 2)), CLOSED);
        s.end();
    }

    /** Each length of an ADD, one too great and one too small. */
    private static void elementsInside(Checks checks) {
        Sentence s = new Sentence(checks, "an element with tag T");
        int[] good = {4, 3, 'b', '=', '1', 48, 10, 48, 8, 4, 1, 'b', 49, 3, 4, 1, '1'};
        s.inside("an ADD", Desk.codeForNobody(checks, Bytes.element(104, Bytes.of(good))), NOBODY);
        for (int place : new int[] {1, 6, 8, 10, 13, 15}) {
            for (int more = -1; more <= 1; more += 2) {
                int[] changed = good.clone();
                changed[place] += more;
                s.outside("byte " + place + " by " + more,
                        Desk.codeForNobody(checks, Bytes.element(104, Bytes.of(changed))), 2);
            }
        }
        for (int place : new int[] {0, 5, 7, 9, 12, 14}) {
            for (int more = -1; more <= 1; more += 2) {
                int[] changed = good.clone();
                changed[place] += more;
                s.outside("tag " + place + " by " + more,
                        Desk.codeForNobody(checks, Bytes.element(104, Bytes.of(changed))), 2);
            }
        }
        s.end();
    }

    private static void shortLengths(Checks checks) {
        Sentence s = new Sentence(checks, "A length is one byte 0 .. 127");
        for (int length = 0; length <= 191; length++) {
            byte[] operation = Bytes.join(Bytes.of(74, length), new byte[length]);
            byte[] message = Bytes.longElement(48, ID, operation);
            s.side(length <= 127, "one byte " + length + " of an operation", codeOf(checks, message),
                    length <= 127 ? NOBODY : CLOSED);
        }
        for (int length = 126; length <= 130; length++) {
            byte[] inside = Bytes.join(ID, Bytes.of(74, length - 5), new byte[length - 5]);
            s.side(length <= 127, "one byte " + length + " of a message", codeOf(checks, Bytes.of(48, length), inside),
                    length <= 127 ? NOBODY : CLOSED);
        }
        s.outside("128 as a length of 0", codeOf(checks, Bytes.of(48, 5, 2, 1, 7, 74, 128)), CLOSED);
        s.outside("128 and one byte", codeOf(checks, Bytes.of(48, 6, 2, 1, 7, 74, 128, 0)), CLOSED);
        s.outside("128 of an id", codeOf(checks, Bytes.of(48, 7, 2, 128, 1, 7, 74, 0)), CLOSED);
        s.outside("255 of an operation", codeOf(checks, Bytes.of(48, 6, 2, 1, 7, 74, 255, 0)), CLOSED);
        s.end();
    }

    private static void longLengths(Checks checks) {
        Sentence s = new Sentence(checks, "or 129 and one byte 0 .. 255.");
        for (int length = 0; length <= 191; length++) {
            byte[] operation = Bytes.longElement(74, new byte[length]);
            s.inside("129 and " + length, codeOf(checks, Bytes.longElement(48, ID, operation)), NOBODY);
        }
        s.inside("129 and 5 of a message", codeOf(checks, Bytes.of(48, 129, 5, 2, 1, 7, 74, 0)), NOBODY);
        s.inside("129 and 1 of an id", codeOf(checks, Bytes.of(48, 6, 2, 129, 1, 7, 74, 0)), NOBODY);
        s.outside("129 and 255 of too few bytes", codeOf(checks, Bytes.of(48, 129, 255, 2, 1, 7, 74, 0)), CLOSED);
        s.outside("129 and one too many", codeOf(checks, Bytes.of(48, 129, 6, 2, 1, 7, 74, 0)), CLOSED);
        s.outside("129 and one too few", codeOf(checks, Bytes.of(48, 129, 4, 2, 1, 7, 74, 0)), CLOSED);
        s.outside("129 and no byte", codeOf(checks, Bytes.of(48, 129)), CLOSED);
        s.outside("129 and no byte of an operation", codeOf(checks, Bytes.of(48, 5, 2, 1, 7, 74, 129)), CLOSED);
        for (int first = 128; first <= 255; first++) {
            if (first != 129) {
                s.outside(first + " and one byte", codeOf(checks, Bytes.of(48, 7, 2, 1, 7, 74, first, 1, 97)), CLOSED);
                s.outside(first + " and two bytes", codeOf(checks, Bytes.of(48, 8, 2, 1, 7, 74, first, 0, 1, 97)), CLOSED);
            }
        }
        s.end();
    }

    /** A base that is no name is told with 34; if it is no TEXT, with 2. */
    private static void lengthsOfTexts(Checks checks) {
        Sentence s = new Sentence(checks, "A length is one byte 0 .. 127, or 129 and one byte 0 .. 255.");
        for (int length : new int[] {1, 126, 127, 128, 129, 130, 160}) {
            s.side(length <= 127, "a text with one byte " + length,
                    baseCode(checks, Bytes.of(4, length), new byte[length]), length <= 127 ? 34 : 2);
        }
        for (int length : new int[] {1, 2, 127, 128, 129, 168, 169}) {
            s.inside("a text with 129 and " + length, baseCode(checks, Bytes.of(4, 129, length), new byte[length]), 34);
        }
        s.inside("a text with 0", baseCode(checks, Bytes.of(4, 0)), 0);
        s.inside("a text with 129 and 0", baseCode(checks, Bytes.of(4, 129, 0)), 0);
        s.outside("a text with 128", baseCode(checks, Bytes.of(4, 128)), 2);
        s.outside("a text with 130", baseCode(checks, Bytes.of(4, 130, 0, 1, 97)), 2);
        s.outside("a text with 129 and 255", baseCode(checks, Bytes.of(4, 129, 255), new byte[160]), 2);
        s.outside("a text with 255", baseCode(checks, Bytes.of(4, 255, 97)), 2);
        byte[] head = Bytes.of(4, 0, 10, 1, 2, 10, 1, 0, 2, 1, 0, 2, 1, 0, 1, 1, 0, 160, 0);
        s.inside("a list at the end", Desk.codeForNobody(checks, Bytes.element(99, head, Bytes.of(48, 129, 0))), 0);
        s.outside("a length at the end that is cut off",
                Desk.codeForNobody(checks, Bytes.element(99, head, Bytes.of(48, 129))), 2);
        s.outside("a tag at the end", Desk.codeForNobody(checks, Bytes.element(99, head, Bytes.of(48))), 2);
        s.end();
    }

    private static int baseCode(Checks checks, byte[]... base) {
        return Desk.codeForNobody(checks, Bytes.element(99, Bytes.join(base), Bytes.choice(2), Bytes.choice(0),
                Bytes.number(0), Bytes.number(0), Bytes.flag(0), Bytes.all(), Bytes.texts(48)));
    }

    private static void justWhatStandsThere(Checks checks) {
        Sentence s = new Sentence(checks, "with just what stands between the braces as its contents");
        byte[] own = Bytes.attribute("b", "1");
        byte[][] more = {Bytes.of(0), Bytes.text(""), Bytes.number(0), Bytes.of(48, 0)};
        s.inside("a message", codeOf(checks, Bytes.element(48, ID, Bytes.add("b=1", own))), NOBODY);
        for (byte[] one : more) {
            String what = Bytes.shown(one);
            s.outside(what + " in a message", codeOf(checks, Bytes.element(48, ID, Bytes.add("b=1", own), one)), CLOSED);
            s.outside(what + " before the id", codeOf(checks, Bytes.element(48, one, ID, Bytes.add("b=1", own))), CLOSED);
            s.outside(what + " in ADD", Desk.codeForNobody(checks,
                    Bytes.element(104, Bytes.text("b=1"), Bytes.element(48, own), one)), 2);
            s.outside(what + " in an attribute", Desk.codeForNobody(checks,
                    Bytes.add("b=1", Bytes.element(48, Bytes.text("b"), Bytes.texts(49, "1"), one))), 2);
            s.outside(what + " in a change", Desk.codeForNobody(checks,
                    Bytes.modify("a=r", Bytes.element(48, Bytes.choice(0), own, one))), 2);
            s.outside(what + " in MODIFY", Desk.codeForNobody(checks,
                    Bytes.element(102, Bytes.text("a=r"), Bytes.element(48), one)), 2);
            s.outside(what + " in SIGN", Desk.codeForNobody(checks, Bytes.element(96, Bytes.number(3), Bytes.text("a=r"),
                    Bytes.element(128, Bytes.latin("x")), one)), 2);
            s.outside(what + " in EQUAL", searchCode(checks,
                    Bytes.element(163, Bytes.text("a"), Bytes.text("r"), one)), 2);
            s.outside(what + " in NOT", searchCode(checks, Bytes.element(162, Bytes.there("a"), one)), 2);
        }
        s.end();
    }

    /** What stands inside here too much would be right one element further out. */
    private static void justWhatStandsInside(Checks checks) {
        Sentence s = new Sentence(checks, "just what stands between the braces as its contents");
        byte[] type = Bytes.text("b");
        byte[] values = Bytes.texts(49, "1");
        byte[] own = Bytes.element(48, type, values);
        byte[] more = Bytes.attribute("c", "1");
        s.inside("two attributes", addCode(checks, own, more), NOBODY);
        s.outside("an attribute in an attribute", addCode(checks, Bytes.element(48, type, values, more)), 2);
        byte[] change = Bytes.change(0, "c", "1");
        s.inside("two changes", Desk.codeForNobody(checks, Bytes.modify("a=r",
                Bytes.element(48, Bytes.choice(0), own), change)), NOBODY);
        s.outside("a change in a change", Desk.codeForNobody(checks, Bytes.modify("a=r",
                Bytes.element(48, Bytes.choice(0), own, change))), 2);
        s.outside("a change in an attribute", Desk.codeForNobody(checks, Bytes.modify("a=r",
                Bytes.element(48, Bytes.choice(0), Bytes.element(48, type, values, change)))), 2);
        byte[] there = Bytes.there("a");
        byte[] text = Bytes.text("a");
        s.inside("two filters in ALL", searchCode(checks, Bytes.all(Bytes.not(there), there)), 0);
        s.outside("the second one in NOT", searchCode(checks, Bytes.all(Bytes.element(162, there, there))), 2);
        s.inside("EQUAL and another one in ALL", searchCode(checks, Bytes.all(Bytes.element(163, text, text), there)), 0);
        s.outside("the other one in EQUAL", searchCode(checks, Bytes.all(Bytes.element(163, text, text, there))), 2);
        byte[] list = Bytes.texts(48);
        s.inside("the list behind NOT", tailCode(checks, Bytes.not(there), list), 0);
        s.outside("the list in NOT", tailCode(checks, Bytes.element(162, there, list)), 2);
        s.inside("the list behind AT LEAST", tailCode(checks, Bytes.element(165, text, text), list), 0);
        s.outside("the list in AT LEAST", tailCode(checks, Bytes.element(165, text, text, list)), 2);
        s.outside("the list in ALL", tailCode(checks, Bytes.all(there, list)), 2);
        s.end();
    }

    /** The code of a search with this instead of its filter and its list. */
    private static int tailCode(Checks checks, byte[]... tail) {
        return Desk.codeForNobody(checks, Bytes.element(99, Bytes.text(""), Bytes.choice(2), Bytes.choice(0),
                Bytes.number(0), Bytes.number(0), Bytes.flag(0), Bytes.join(tail)));
    }

    /** What is missing here would stand behind the last byte that can be typed. */
    private static void whatIsMissingAtTheEnd(Checks checks) {
        Sentence s = new Sentence(checks, "so many bytes of CONTENTS.");
        byte[] none = {};
        byte[] add = Bytes.element(48, Bytes.attribute("b", "1"));
        byte[] modify = Bytes.element(48, Bytes.change(0, "b", "1"));
        byte[] search = Bytes.join(Bytes.choice(2), Bytes.choice(0), Bytes.number(0), Bytes.number(0), Bytes.flag(0),
                Bytes.not(Bytes.equal("a", "r")), Bytes.texts(48, "a"));
        endings(s, checks, 104, none, add, NOBODY);
        endings(s, checks, 102, none, modify, NOBODY);
        endings(s, checks, 99, none, search, 34);
        endings(s, checks, 96, Bytes.number(3), Bytes.element(128, Bytes.latin("xy")), 34);
        s.end();
    }

    /** Messages of 200 bytes whose name is no name and so long that the tail, or a piece of it, ends them. */
    private static void endings(Sentence s, Checks checks, int tag, byte[] head, byte[] tail, int due) {
        for (int kept = 0; kept <= tail.length; kept++) {
            int rest = 191 - head.length - kept - 3;
            byte[] piece = java.util.Arrays.copyOf(tail, kept);
            byte[] operation = Bytes.element(tag, head, Bytes.longElement(4, new byte[rest]), piece);
            byte[] message = Bytes.message(7, operation);
            checks.same("the bytes of it", message.length, 200);
            boolean isWhole = kept == tail.length;
            s.side(isWhole, kept + " bytes of the tail of " + tag, codeOf(checks, message), isWhole ? due : 2);
        }
    }

    private static int searchCode(Checks checks, byte[] filter) {
        return Desk.codeForNobody(checks, Bytes.search("", 2, 0, 0, filter));
    }

    private static void anyNumber(Checks checks) {
        Sentence s = new Sentence(checks, "x* is any number of x one behind the other.");
        byte[] other = Bytes.number(1);
        for (int count = 0; count <= 3; count++) {
            byte[] texts = repeated(Bytes.text("c"), count);
            byte[] attributes = repeated(Bytes.attribute("b"), count);
            byte[] changes = repeated(Bytes.change(0, "b"), count);
            byte[] filters = repeated(Bytes.there("a"), count);
            byte[] type = Bytes.text("b");
            s.inside(count + " values", addCode(checks, Bytes.element(48, type, Bytes.element(49, texts))), NOBODY);
            s.outside(count + " values and a number",
                    addCode(checks, Bytes.element(48, type, Bytes.element(49, texts, other))), 2);
            s.inside(count + " attributes", addCode(checks, attributes), NOBODY);
            s.outside(count + " attributes and a number", addCode(checks, attributes, other), 2);
            s.inside(count + " changes", Desk.codeForNobody(checks, Bytes.modify("a=r", changes)), NOBODY);
            s.outside(count + " changes and a number",
                    Desk.codeForNobody(checks, Bytes.modify("a=r", changes, other)), 2);
            s.inside(count + " filters of ALL", searchCode(checks, Bytes.all(filters)), 0);
            s.outside(count + " filters of ALL and a number", searchCode(checks, Bytes.all(filters, other)), 2);
            s.inside(count + " filters of ANY", searchCode(checks, Bytes.any(filters)), 0);
            s.outside(count + " filters of ANY and a number", searchCode(checks, Bytes.any(filters, other)), 2);
            s.inside(count + " texts", listCode(checks, texts), 0);
            s.outside(count + " texts and a number", listCode(checks, texts, other), 2);
        }
        s.end();
    }

    private static int addCode(Checks checks, byte[]... attributes) {
        return Desk.codeForNobody(checks, Bytes.add("b=1", attributes));
    }

    private static int listCode(Checks checks, byte[]... list) {
        return Desk.codeForNobody(checks, Bytes.element(99, Bytes.text(""), Bytes.choice(2), Bytes.choice(0),
                Bytes.number(0), Bytes.number(0), Bytes.flag(0), Bytes.all(), Bytes.element(48, list)));
    }

    private static byte[] repeated(byte[] piece, int times) {
        byte[][] pieces = new byte[times][];
        java.util.Arrays.fill(pieces, piece);
        return Bytes.join(pieces);
    }

    private static void numberSizes(Checks checks) {
        Sentence s = new Sentence(checks, "NUMBER = 2 { one or two bytes");
        for (int tag = 0; tag < 256; tag++) {
            s.side(tag == 2, "the tag " + tag, idAnswered(checks, tag, 1, 5), tag == 2 ? 5 : CLOSED);
        }
        s.outside("an id of no bytes", idAnswered(checks, 2, 0), CLOSED);
        s.inside("an id of one byte", idAnswered(checks, 2, 1, 5), 5);
        s.inside("an id of two bytes", idAnswered(checks, 2, 2, 0, 5), 5);
        s.outside("an id of three bytes", idAnswered(checks, 2, 3, 0, 0, 5), CLOSED);
        for (int place : new int[] {3, 4}) {
            s.outside(place + " of no bytes", pieceCode(checks, place, Bytes.of(2, 0)), 2);
            s.inside(place + " of one byte", pieceCode(checks, place, Bytes.of(2, 1, 1)), 0);
            s.inside(place + " of two bytes", pieceCode(checks, place, Bytes.of(2, 2, 0, 1)), 0);
            s.outside(place + " of three bytes", pieceCode(checks, place, Bytes.of(2, 3, 0, 0, 1)), 2);
            s.outside(place + " with the tag 1", pieceCode(checks, place, Bytes.of(1, 1, 1)), 2);
            s.outside(place + " with the tag 3", pieceCode(checks, place, Bytes.of(3, 1, 1)), 2);
        }
        s.outside("a version of no bytes", signCode(checks, 2, 0), 2);
        s.inside("a version of one byte", signCode(checks, 2, 1, 3), 0);
        s.inside("a version of two bytes", signCode(checks, 2, 2, 0, 3), 0);
        s.outside("a version of three bytes", signCode(checks, 2, 3, 0, 0, 3), 2);
        s.end();
    }

    /** The code of a search one of whose pieces is another one. */
    private static int pieceCode(Checks checks, int place, byte[] piece) {
        byte[][] pieces = {Bytes.text(""), Bytes.choice(2), Bytes.choice(0), Bytes.number(0), Bytes.number(0),
            Bytes.flag(0), Bytes.all(), Bytes.texts(48)};
        pieces[place] = piece;
        return Desk.codeForNobody(checks, Bytes.element(99, pieces));
    }

    private static int signCode(Checks checks, int... version) {
        return Desk.codeForNobody(checks, Bytes.element(96, Bytes.of(version), Bytes.text("a=r"),
                Bytes.element(128, Bytes.latin("x"))));
    }

    private static void numberSigns(Checks checks) {
        Sentence s = new Sentence(checks, "read as a number of 8 or 16 bits with a sign, the higher byte first");
        for (int b = 0; b < 256; b++) {
            s.side(b < 128, "the byte " + b, idAnswered(checks, 2, 1, b), b < 128 ? b : CLOSED);
            s.side(b < 128, "the bytes " + b + " 0", idAnswered(checks, 2, 2, b, 0), b < 128 ? b * 256 : CLOSED);
            s.side(b < 128, "the bytes " + b + " 255", idAnswered(checks, 2, 2, b, 255), b < 128 ? b * 256 + 255 : CLOSED);
            s.inside("the bytes 0 " + b, idAnswered(checks, 2, 2, 0, b), b);
        }
        s.end();
    }

    private static void limitsAndVersions(Checks checks) {
        Sentence s = new Sentence(checks, "a number of 8 or 16 bits with a sign, the higher byte first");
        s.inside("the limit 127", pieceCode(checks, 3, Bytes.of(2, 1, 127)), 0);
        s.outside("the limit -128", pieceCode(checks, 3, Bytes.of(2, 1, 128)), 2);
        s.inside("the limit 128", pieceCode(checks, 3, Bytes.of(2, 2, 0, 128)), 0);
        s.inside("the limit 32767", pieceCode(checks, 3, Bytes.of(2, 2, 127, 255)), 0);
        s.outside("the limit -32768", pieceCode(checks, 3, Bytes.of(2, 2, 128, 0)), 2);
        s.outside("the limit -1", pieceCode(checks, 3, Bytes.of(2, 2, 255, 255)), 2);
        for (int b : new int[] {127, 128, 255}) {
            s.inside("the other number " + b, pieceCode(checks, 4, Bytes.of(2, 1, b)), 0);
            s.inside("the other number " + b + " 0", pieceCode(checks, 4, Bytes.of(2, 2, b, 0)), 0);
        }
        s.inside("the version 0 3", signCode(checks, 2, 2, 0, 3), 0);
        s.outside("the version 3 0", signCode(checks, 2, 2, 3, 0), 2);
        s.outside("the version 1 3", signCode(checks, 2, 2, 1, 3), 2);
        s.outside("the version 255 3", signCode(checks, 2, 2, 255, 3), 2);
        s.end();
    }

    private static void choices(Checks checks) {
        Sentence s = new Sentence(checks, "CHOICE = 10 { one byte, the number }.");
        for (int place : new int[] {1, 2}) {
            s.outside(place + " of no bytes", pieceCode(checks, place, Bytes.of(10, 0)), 2);
            s.inside(place + " of one byte", pieceCode(checks, place, Bytes.of(10, 1, 0)), 0);
            s.outside(place + " of two bytes", pieceCode(checks, place, Bytes.of(10, 2, 0, 0)), 2);
            s.outside(place + " with the tag 9", pieceCode(checks, place, Bytes.of(9, 1, 0)), 2);
            s.outside(place + " with the tag 11", pieceCode(checks, place, Bytes.of(11, 1, 0)), 2);
        }
        s.outside("a kind of no bytes", kindCode(checks, 10, 0), 2);
        s.inside("a kind of one byte", kindCode(checks, 10, 1, 0), NOBODY);
        s.outside("a kind of two bytes", kindCode(checks, 10, 2, 0, 0), 2);
        s.outside("a kind with the tag 9", kindCode(checks, 9, 1, 0), 2);
        s.outside("a kind with the tag 11", kindCode(checks, 11, 1, 0), 2);
        s.end();
    }

    private static int kindCode(Checks checks, int... kind) {
        return Desk.codeForNobody(checks,
                Bytes.modify("a=r", Bytes.element(48, Bytes.of(kind), Bytes.attribute("b", "1"))));
    }

    private static void flags(Checks checks) {
        Sentence s = new Sentence(checks, "FLAG = 1 { one byte, no if 0 }.");
        s.outside("no bytes", pieceCode(checks, 5, Bytes.of(1, 0)), 2);
        s.inside("one byte", pieceCode(checks, 5, Bytes.of(1, 1, 0)), 0);
        s.outside("two bytes", pieceCode(checks, 5, Bytes.of(1, 2, 0, 0)), 2);
        s.outside("the tag 0", pieceCode(checks, 5, Bytes.of(0, 1, 0)), 2);
        s.outside("the tag 2", pieceCode(checks, 5, Bytes.of(2, 1, 0)), 2);
        byte[] last = Bytes.last(7, 101, 0, "");
        String values = Bytes.shown(Bytes.join(
                Bytes.found(7, "a=r", Bytes.attribute("a", "r"), Bytes.attribute("f", "x")), last));
        String types = Bytes.shown(Bytes.join(
                Bytes.found(7, "a=r", Bytes.attribute("a"), Bytes.attribute("f")), last));
        for (int b = 0; b < 256; b++) {
            Desk x = new Desk(checks);
            x.code(Bytes.search("", 2, 0, b, Bytes.all()));
            s.side(b == 0, "the byte " + b, Bytes.shown(x.answer()), b == 0 ? values : types);
        }
        s.end();
    }

    private static void texts(Checks checks) {
        Sentence s = new Sentence(checks, "TEXT = 4 { any bytes }.");
        s.inside("no bytes", pieceCode(checks, 0, Bytes.of(4, 0)), 0);
        for (int b = 0; b < 256; b++) {
            s.inside("the byte " + b, pieceCode(checks, 0, Bytes.of(4, 1, b)), 34);
            s.inside("the byte " + b + " in the list", pieceCode(checks, 7, Bytes.of(48, 3, 4, 1, b)), 0);
            s.side(b == 4, "the tag " + b, pieceCode(checks, 0, Bytes.of(b, 0)), b == 4 ? 0 : 2);
            s.side(b == 4, "the tag " + b + " in the list", pieceCode(checks, 7, Bytes.of(48, 2, b, 0)), b == 4 ? 0 : 2);
        }
        s.end();
    }
}
