/** The edges of messages and operations: what they are made of, how much of it, and how they are handled. */
public final class MessageEdgeTest {
    private static final byte[] ID = Bytes.number(7);
    private static final int CLOSED = DirectoryDesk.CLOSED;
    /** What DELETE, ADD and MODIFY give when they are well formed and nobody is signed on. */
    private static final int NOBODY = 50;

    public static void main(String[] args) {
        Checks checks = new Checks("MessageEdgeTest");
        messages(checks);
        ids(checks);
        operations(checks);
        signs(checks);
        leaves(checks);
        searches(checks);
        searchNumbers(checks);
        modifies(checks);
        changeKinds(checks);
        adds(checks);
        deletes(checks);
        attributes(checks);
        manyChanges(checks);
        manyAttributes(checks);
        manyValues(checks);
        manyTexts(checks);
        allAtOnce(checks);
        noMessages(checks);
        leavingWithContents(checks);
        leaving(checks);
        malformed(checks);
        checks.end();
    }

    private static int codeOf(Checks checks, byte[] bytes) {
        return new Desk(checks).sendRaw(bytes);
    }

    private static void messages(Checks checks) {
        Sentence s = new Sentence(checks, "MESSAGE = 48 { NUMBER id from 0 on; an OPERATION }.");
        byte[] delete = Bytes.delete("a=r");
        for (int tag = 0; tag < 256; tag++) {
            s.side(tag == 48, "the tag " + tag, codeOf(checks, Bytes.element(tag, ID, delete)),
                    tag == 48 ? NOBODY : CLOSED);
        }
        s.outside("no id", codeOf(checks, Bytes.element(48, delete)), CLOSED);
        s.outside("two ids", codeOf(checks, Bytes.element(48, ID, ID, delete)), CLOSED);
        s.outside("no operation", codeOf(checks, Bytes.element(48, ID)), CLOSED);
        s.outside("two operations", codeOf(checks, Bytes.element(48, ID, delete, delete)), CLOSED);
        s.outside("the id behind the operation", codeOf(checks, Bytes.element(48, delete, ID)), CLOSED);
        s.outside("two messages", codeOf(checks, Bytes.join(Bytes.message(7, delete), Bytes.message(7, delete))), CLOSED);
        s.outside("nothing in it", codeOf(checks, Bytes.element(48)), CLOSED);
        s.end();
    }

    private static void ids(Checks checks) {
        Sentence s = new Sentence(checks, "NUMBER id from 0 on");
        byte[] search = Bytes.search("", 2, 0, 0, Bytes.all());
        s.inside("0", codeOf(checks, Bytes.message(0, search)), 0);
        s.outside("-1", codeOf(checks, Bytes.message(-1, search)), CLOSED);
        s.inside("0 in two bytes", codeOf(checks, Bytes.element(48, Bytes.of(2, 2, 0, 0), search)), 0);
        s.outside("-1 in two bytes", codeOf(checks, Bytes.element(48, Bytes.of(2, 2, 255, 255), search)), CLOSED);
        s.inside("the greatest", codeOf(checks, Bytes.message(32767, search)), 0);
        s.outside("the least", codeOf(checks, Bytes.message(-32768, search)), CLOSED);
        s.end();
    }

    private static void operations(Checks checks) {
        Sentence s = new Sentence(checks, "An OPERATION is one of:");
        for (int tag = 0; tag < 256; tag++) {
            boolean isAnswered = tag == 96 || tag == 99 || tag == 102 || tag == 104 || tag == 74;
            int due = !isAnswered ? CLOSED : tag == 74 ? NOBODY : 2;
            s.side(isAnswered, "the tag " + tag, codeOf(checks, Bytes.message(7, Bytes.element(tag))), due);
        }
        s.end();
    }

    /** The pieces as they are, then each one missing, twice, with another tag, and behind the next one. */
    private static void pieces(Sentence s, Checks checks, int tag, byte[][] good, int due) {
        s.inside("as it is", Desk.codeForNobody(checks, Bytes.element(tag, good)), due);
        for (int i = 0; i < good.length; i++) {
            changed(s, checks, tag, good, i, Bytes.of(), "without piece " + i);
            changed(s, checks, tag, good, i, Bytes.join(good[i], good[i]), "piece " + i + " twice");
            changed(s, checks, tag, good, i, retagged(good[i], 1), "a greater tag of piece " + i);
            changed(s, checks, tag, good, i, retagged(good[i], -1), "a less tag of piece " + i);
            if (i > 0 && good[i][0] != good[i - 1][0]) {
                byte[][] turned = good.clone();
                turned[i] = good[i - 1];
                turned[i - 1] = good[i];
                s.outside("piece " + i + " first", Desk.codeForNobody(checks, Bytes.element(tag, turned)), 2);
            }
        }
        byte[] behind = Bytes.join(good[good.length - 1], Bytes.of(0));
        changed(s, checks, tag, good, good.length - 1, behind, "a byte behind");
        s.outside("nothing", Desk.codeForNobody(checks, Bytes.element(tag)), 2);
    }

    private static void changed(Sentence s, Checks checks, int tag, byte[][] good, int i, byte[] piece, String what) {
        byte[][] pieces = good.clone();
        pieces[i] = piece;
        s.outside(what, Desk.codeForNobody(checks, Bytes.element(tag, pieces)), 2);
    }

    private static byte[] retagged(byte[] element, int by) {
        byte[] other = element.clone();
        other[0] += by;
        return other;
    }

    private static void signs(Checks checks) {
        Sentence s = new Sentence(checks, "SIGN = 96 { NUMBER version; TEXT name; 128 { any bytes, the password } }");
        byte[][] good = {Bytes.number(3), Bytes.text("a=r"), Bytes.element(128, Bytes.latin("x"))};
        pieces(s, checks, 96, good, 0);
        s.inside("a password of no bytes", Desk.codeForNobody(checks, Bytes.sign(3, "", "")), 0);
        s.inside("a password of the byte 0", Desk.codeForNobody(checks, Bytes.sign(3, "a=r", "\0")), 49);
        s.inside("a password of the byte 255", Desk.codeForNobody(checks, Bytes.sign(3, "a=r", "\u00ff")), 49);
        s.inside("a password of 127 bytes", Desk.codeForNobody(checks, Bytes.sign(3, "a=r", "x".repeat(127))), 49);
        s.inside("a password of 128 bytes", Desk.codeForNobody(checks, Bytes.sign(3, "a=r", "x".repeat(128))), 49);
        s.end();
    }

    private static void leaves(Checks checks) {
        Sentence s = new Sentence(checks, "LEAVE = 66 { }");
        s.inside("without contents", codeOf(checks, Bytes.of(48, 5, 2, 1, 7, 66, 0)), CLOSED);
        s.inside("with a long length", codeOf(checks, Bytes.of(48, 6, 2, 1, 7, 66, 129, 0)), CLOSED);
        s.outside("with one byte", codeOf(checks, Bytes.of(48, 6, 2, 1, 7, 66, 1, 0)), CLOSED);
        s.end();
    }

    private static byte[][] searchPieces() {
        return new byte[][] {Bytes.text("a=r"), Bytes.choice(2), Bytes.choice(3), Bytes.number(1), Bytes.number(-1),
            Bytes.flag(1), Bytes.there("a"), Bytes.texts(48, "a")};
    }

    private static void searches(Checks checks) {
        Sentence s = new Sentence(checks, "SEARCH = 99 { TEXT base; CHOICE scope 0 .. 2; CHOICE 0 .. 3 (not looked at);"
                + " NUMBER limit from 0 on; NUMBER (not looked at); FLAG types alone; FILTER; 48 { TEXT* } }");
        pieces(s, checks, 99, searchPieces(), 0);
        s.end();
    }

    private static int searchCode(Checks checks, int place, byte[] piece) {
        byte[][] pieces = searchPieces();
        pieces[place] = piece;
        return Desk.codeForNobody(checks, Bytes.element(99, pieces));
    }

    private static void searchNumbers(Checks checks) {
        Sentence scope = new Sentence(checks, "CHOICE scope 0 .. 2");
        Sentence choice = new Sentence(checks, "CHOICE 0 .. 3 (not looked at)");
        for (int b = 0; b < 256; b++) {
            scope.side(b <= 2, "" + b, searchCode(checks, 1, Bytes.choice(b)), b <= 2 ? 0 : 2);
            choice.side(b <= 3, "" + b, searchCode(checks, 2, Bytes.choice(b)), b <= 3 ? 0 : 2);
        }
        scope.end();
        choice.end();
        Sentence limit = new Sentence(checks, "NUMBER limit from 0 on");
        for (int number : new int[] {-32768, -129, -128, -2, -1, 0, 1, 127, 128, 255, 256, 32767}) {
            limit.side(number >= 0, "" + number, searchCode(checks, 3, Bytes.number(number)), number >= 0 ? 0 : 2);
        }
        limit.end();
        Sentence other = new Sentence(checks, "NUMBER (not looked at)");
        for (int number : new int[] {-32768, -1, 0, 1, 32767}) {
            other.inside("" + number, searchCode(checks, 4, Bytes.number(number)), 0);
        }
        other.outside("no number", searchCode(checks, 4, Bytes.of()), 2);
        other.end();
        Sentence flag = new Sentence(checks, "FLAG types alone");
        flag.inside("255", searchCode(checks, 5, Bytes.flag(255)), 0);
        flag.outside("no flag", searchCode(checks, 5, Bytes.of()), 2);
        flag.end();
    }

    private static void modifies(Checks checks) {
        Sentence s = new Sentence(checks, "MODIFY = 102 { TEXT name; 48 { CHANGE* } }");
        pieces(s, checks, 102, new byte[][] {Bytes.text("a=r"), Bytes.element(48, Bytes.change(0, "b", "1"))}, NOBODY);
        s.inside("without changes", Desk.codeWhenSigned(checks, Bytes.modify("a=r")), 0);
        s.end();
    }

    private static void changeKinds(Checks checks) {
        Sentence s = new Sentence(checks, "CHANGE = 48 { CHOICE 0 .. 2; ATTRIBUTE }");
        for (int b = 0; b < 256; b++) {
            s.side(b <= 2, "the kind " + b, Desk.codeForNobody(checks, Bytes.modify("a=r", Bytes.change(b, "c", "1"))),
                    b <= 2 ? NOBODY : 2);
        }
        byte[] attribute = Bytes.attribute("c", "1");
        inList(s, checks, 102, new byte[][] {Bytes.choice(0), attribute});
        s.end();
    }

    /** The only element of an operation's list, as it is and with its pieces changed. */
    private static void inList(Sentence s, Checks checks, int tag, byte[][] good) {
        s.inside("as it is", listCode(checks, tag, Bytes.element(48, good)), NOBODY);
        s.outside("a greater tag", listCode(checks, tag, Bytes.element(49, good)), 2);
        s.outside("a less tag", listCode(checks, tag, Bytes.element(47, good)), 2);
        s.outside("a byte behind", listCode(checks, tag, Bytes.element(48, Bytes.join(good), Bytes.of(0))), 2);
        s.outside("nothing in it", listCode(checks, tag, Bytes.element(48)), 2);
        s.outside("its pieces turned round", listCode(checks, tag, Bytes.element(48, good[1], good[0])), 2);
        for (int i = 0; i < 2; i++) {
            byte[] other = good[1 - i];
            byte[][] wrong = {Bytes.of(), Bytes.join(good[i], good[i]), retagged(good[i], 1), retagged(good[i], -1)};
            for (byte[] piece : wrong) {
                byte[] element = i == 0 ? Bytes.element(48, piece, other) : Bytes.element(48, other, piece);
                s.outside("piece " + i + " is " + Bytes.shown(piece), listCode(checks, tag, element), 2);
            }
        }
    }

    private static int listCode(Checks checks, int tag, byte[] element) {
        return Desk.codeForNobody(checks, Bytes.element(tag, Bytes.text("a=r"), Bytes.element(48, element)));
    }

    private static void adds(Checks checks) {
        Sentence s = new Sentence(checks, "ADD = 104 { TEXT name; 48 { ATTRIBUTE* } }");
        pieces(s, checks, 104, new byte[][] {Bytes.text("b=1"), Bytes.element(48, Bytes.attribute("b", "1"))}, NOBODY);
        s.inside("without attributes", Desk.codeWhenSigned(checks, Bytes.add("b=1")), 64);
        s.outside("a change in it", Desk.codeForNobody(checks, Bytes.add("b=1", Bytes.change(0, "b", "1"))), 2);
        s.end();
    }

    private static void deletes(Checks checks) {
        Sentence s = new Sentence(checks, "DELETE = 74 { any bytes, the name }");
        s.inside("the name", Desk.codeWhenSigned(checks, Bytes.delete("a=r")), 0);
        s.outside("no bytes", Desk.codeWhenSigned(checks, Bytes.delete("")), 34);
        s.outside("the name as a text", Desk.codeWhenSigned(checks, Bytes.element(74, Bytes.text("a=r"))), 34);
        for (int b = 0; b < 256; b++) {
            s.outside("the byte " + b, Desk.codeWhenSigned(checks, Bytes.element(74, Bytes.of(b))), 34);
        }
        s.outside("as many bytes as can be typed", Desk.codeWhenSigned(checks, Bytes.element(74, new byte[191])), 34);
        s.end();
    }

    private static void attributes(Checks checks) {
        Sentence s = new Sentence(checks, "ATTRIBUTE = 48 { TEXT type; 49 { TEXT* } }");
        inList(s, checks, 104, new byte[][] {Bytes.text("b"), Bytes.texts(49, "1")});
        byte[] text = Bytes.text("b");
        for (int tag = 0; tag < 256; tag++) {
            byte[] one = Bytes.element(48, text, Bytes.element(tag));
            s.side(tag == 49, "values with the tag " + tag, listCode(checks, 104, one), tag == 49 ? NOBODY : 2);
            byte[] value = Bytes.element(48, text, Bytes.element(49, Bytes.of(tag, 0)));
            s.side(tag == 4, "a value with the tag " + tag, listCode(checks, 104, value), tag == 4 ? NOBODY : 2);
        }
        s.end();
    }

    private static void manyChanges(Checks checks) {
        Sentence s = new Sentence(checks, "There are at most 12 changes");
        for (int count = 11; count <= 14; count++) {
            byte[] modify = Bytes.modify("a=r", repeated(Bytes.change(0, "c"), count));
            s.side(count <= 12, count + " changes", Desk.codeWhenSigned(checks, modify), count <= 12 ? 0 : 2);
            s.side(count <= 12, count + " for nobody", Desk.codeForNobody(checks, modify), count <= 12 ? NOBODY : 2);
        }
        byte[][] twelve = repeated(Bytes.change(2, "c"), 12);
        twelve[11] = Bytes.change(0, "d", "1");
        Desk x = Desk.signedOn(checks);
        s.inside("the twelfth", x.code(Bytes.modify("a=r", twelve)), 0);
        s.inside("it was carried out", x.shown(0), "1: a=r f=x d=1");
        s.end();
    }

    private static void manyAttributes(Checks checks) {
        Sentence s = new Sentence(checks, "or 12 attributes");
        for (int count = 11; count <= 14; count++) {
            byte[][] attributes = repeated(Bytes.attribute("c"), count);
            attributes[count - 1] = Bytes.attribute("b", "1");
            byte[] add = Bytes.add("b=1", attributes);
            s.side(count <= 12, count + " attributes", Desk.codeWhenSigned(checks, add), count <= 12 ? 0 : 2);
            s.side(count <= 12, count + " for nobody", Desk.codeForNobody(checks, add), count <= 12 ? NOBODY : 2);
        }
        s.end();
    }

    private static void manyValues(Checks checks) {
        Sentence s = new Sentence(checks, "at most 24 values of attributes altogether in a message");
        for (int count = 23; count <= 26; count++) {
            boolean isInside = count <= 24;
            byte[] one = Bytes.add("b=0", Bytes.attribute("b", values(count)));
            s.side(isInside, count + " of one attribute", Desk.codeWhenSigned(checks, one), isInside ? 53 : 2);
            byte[] two = Bytes.add("b=0", Bytes.attribute("b", values(12)), Bytes.attribute("c", values(count - 12)));
            s.side(isInside, count + " of two attributes", Desk.codeWhenSigned(checks, two), isInside ? 53 : 2);
            byte[] last = Bytes.add("b=0", Bytes.attribute("b", values(count - 1)), Bytes.attribute("c", "1"));
            s.side(isInside, count + ", the last one alone", Desk.codeWhenSigned(checks, last), isInside ? 53 : 2);
            byte[] change = Bytes.modify("a=r", Bytes.change(0, "c", values(count)));
            s.side(isInside, count + " of one change", Desk.codeWhenSigned(checks, change), isInside ? 53 : 2);
            byte[] changes = Bytes.modify("a=r", Bytes.change(0, "c", values(1)), Bytes.change(2, "c", values(count - 2)),
                    Bytes.change(1, "c", "0"));
            s.side(isInside, count + " of three changes", Desk.codeWhenSigned(checks, changes), isInside ? 53 : 2);
            byte[] empty = Bytes.add("b=0", Bytes.attribute("b", values(count)), Bytes.attribute("c"));
            s.side(isInside, count + " and an attribute without", Desk.codeForNobody(checks, empty), isInside ? NOBODY : 2);
        }
        Desk x = Desk.signedOn(checks);
        s.inside("24 that are all taken away but one", x.code(Bytes.modify("a=r", Bytes.change(0, "c", values(23)),
                Bytes.change(2, "c", "z"))), 0);
        s.inside("they were carried out", x.shown(0), "1: a=r f=x c=z");
        s.inside("24 again in the next message", x.code(Bytes.modify("a=r", Bytes.change(2, "c", values(24)))), 53);
        s.end();
    }

    private static void manyTexts(Checks checks) {
        Sentence s = new Sentence(checks, "at most 12 texts in the list of a search.");
        String answer = Bytes.shown(Bytes.join(Bytes.found(7, "a=r", Bytes.attribute("f", "x")), Bytes.last(7, 101, 0, "")));
        for (int count = 11; count <= 14; count++) {
            String[] texts = new String[count];
            java.util.Arrays.fill(texts, "");
            texts[count - 1] = "f";
            Desk x = new Desk(checks);
            int code = x.code(Bytes.search("", 2, 0, 0, Bytes.all(), texts));
            s.side(count <= 12, count + " texts", code, count <= 12 ? 0 : 2);
            s.side(count <= 12, count + " texts, the answer", Bytes.shown(x.answer()),
                    count <= 12 ? answer : Bytes.shown(Bytes.last(7, 101, 2, "")));
        }
        s.end();
    }

    private static void allAtOnce(Checks checks) {
        Sentence s = new Sentence(checks,
                "at most 12 changes, or 12 attributes, and at most 24 values of attributes altogether in a message");
        for (int values = 24; values <= 25; values++) {
            for (int attributes = 12; attributes <= 13; attributes++) {
                byte[][] list = repeated(Bytes.attribute("c"), attributes);
                list[0] = Bytes.attribute("b", values(values - 12));
                list[11] = Bytes.attribute("d", values(12));
                boolean isInside = values <= 24 && attributes <= 12;
                s.side(isInside, attributes + " attributes, " + values + " values",
                        Desk.codeWhenSigned(checks, Bytes.add("b=0", list)), isInside ? 53 : 2);
            }
        }
        s.end();
    }

    private static byte[][] repeated(byte[] piece, int times) {
        byte[][] pieces = new byte[times][];
        java.util.Arrays.fill(pieces, piece);
        return pieces;
    }

    /** Different values of one byte, from 0 on. */
    private static String[] values(int count) {
        String[] values = new String[count];
        for (int i = 0; i < count; i++) {
            values[i] = String.valueOf("0123456789abcdefghijklmnopqrstuvwxyz".charAt(i));
        }
        return values;
    }

    /** What bytes that close the line leave: its code, and what is told then. */
    private static String closing(Checks checks, byte[] bytes) {
        Desk x = Desk.signedOn(checks);
        int code = x.sendRaw(bytes);
        return code + " " + x.desk.open() + " " + x.desk.signed() + " " + x.desk.answered() + " " + x.shownAll();
    }

    private static final String CLOSED_THEN = "-1 false false 0 1: a=r f=x";
    private static final String MALFORMED_THEN = "2 true true 14 1: a=r f=x";

    private static void noMessages(Checks checks) {
        Sentence s = new Sentence(checks, "if the bytes are no MESSAGE up to the tag, length and end of an operation with"
                + " one of the six tags (the contents of the operation not looked at)");
        for (int tag : new int[] {96, 99, 102, 104}) {
            s.outside("a byte in " + tag, closing(checks, Bytes.of(48, 6, 2, 1, 7, tag, 1, 255)), MALFORMED_THEN);
            s.inside("a byte behind " + tag, closing(checks, Bytes.of(48, 6, 2, 1, 7, tag, 0, 255)), CLOSED_THEN);
            s.inside("a byte missing in " + tag, closing(checks, Bytes.of(48, 5, 2, 1, 7, tag, 1)), CLOSED_THEN);
            s.inside("no length of " + tag, closing(checks, Bytes.of(48, 4, 2, 1, 7, tag)), CLOSED_THEN);
            s.inside("a length of " + tag + " beyond the message", closing(checks, Bytes.of(48, 5, 2, 1, 7, tag, 1, 255)),
                    CLOSED_THEN);
        }
        byte[] rubbish = new byte[191];
        java.util.Arrays.fill(rubbish, (byte) 255);
        s.outside("rubbish to the last byte that can be typed",
                closing(checks, Bytes.message(7, Bytes.element(99, rubbish))), MALFORMED_THEN);
        for (int tag : new int[] {65, 67, 73, 75, 95, 97, 98, 100, 101, 103, 105}) {
            s.inside("the tag " + tag, closing(checks, Bytes.of(48, 5, 2, 1, 7, tag, 0)), CLOSED_THEN);
        }
        s.inside("nothing", closing(checks, Bytes.of()), CLOSED_THEN);
        s.end();
    }

    private static void leavingWithContents(Checks checks) {
        Sentence s = new Sentence(checks, "or it is LEAVE and has contents, the line is CLOSED, nothing is answered.");
        s.inside("one byte", closing(checks, Bytes.of(48, 6, 2, 1, 7, 66, 1, 0)), CLOSED_THEN);
        s.inside("many bytes", closing(checks, Bytes.message(7, Bytes.element(66, new byte[191]))), CLOSED_THEN);
        s.outside("one byte of SIGN", closing(checks, Bytes.of(48, 6, 2, 1, 7, 96, 1, 0)), MALFORMED_THEN);
        s.end();
    }

    private static void leaving(Checks checks) {
        Sentence s = new Sentence(checks, "LEAVE closes it, too.");
        s.inside("LEAVE", closing(checks, Bytes.of(48, 5, 2, 1, 7, 66, 0)), CLOSED_THEN);
        s.inside("LEAVE with the id 0", closing(checks, Bytes.of(48, 5, 2, 1, 0, 66, 0)), CLOSED_THEN);
        s.outside("DELETE", closing(checks, Bytes.of(48, 5, 2, 1, 7, 74, 0)), "34 true true 14 1: a=r f=x");
        s.end();
    }

    private static void malformed(Checks checks) {
        Sentence s = new Sentence(checks, "Otherwise, if the operation's contents are not as they have to be, its CODE is"
                + " 2, and nothing else happens (one stays signed on as before).");
        byte[] x = Bytes.element(128, Bytes.latin("x"));
        byte[][] wrong = {
            Bytes.element(96, Bytes.number(3), Bytes.text("a=r"), x, Bytes.of(0)),
            Bytes.element(96, Bytes.number(3), Bytes.text(""), Bytes.element(128), Bytes.of(0)),
            Bytes.element(104, Bytes.text("b=1"), Bytes.element(48, Bytes.attribute("b", "1")), Bytes.of(0)),
            Bytes.element(104, Bytes.text("?"), Bytes.of(0)),
            Bytes.element(102, Bytes.text("a=r"), Bytes.element(48, Bytes.change(0, "b", "1"), Bytes.of(0))),
            Bytes.element(102, Bytes.text("?"), Bytes.of(0)),
            Bytes.search("a=r", 3, 0, 0, Bytes.all()),
            Bytes.search("?", 3, 0, 0, Bytes.all()),
            Bytes.search("b=1,a=r", 3, 0, 0, Bytes.all())};
        int[] tags = {97, 97, 105, 105, 103, 103, 101, 101, 101};
        for (int i = 0; i < wrong.length; i++) {
            s.inside("message " + i, closing(checks, Bytes.message(7, wrong[i])), MALFORMED_THEN);
            Desk nobody = new Desk(checks);
            s.inside("message " + i + " for nobody", nobody.code(wrong[i]) + " " + nobody.desk.signed(), "2 false");
            s.inside("message " + i + ", the answer", Bytes.shown(nobody.answer()), Bytes.shown(Bytes.last(7, tags[i], 2, "")));
        }
        Desk other = Desk.signedOn(checks);
        s.outside("a version that is not 3", other.code(Bytes.sign(2, "a=r", "x")) + " " + other.desk.signed(), "2 false");
        s.end();
    }
}
