/** The edges of types, values, names, entries and pairs. */
public final class NameEdgeTest {
    public static void main(String[] args) {
        Checks checks = new Checks("NameEdgeTest");
        types(checks);
        typeTexts(checks);
        valueBytes(checks);
        valueLengths(checks);
        lessValues(checks);
        nameParts(checks);
        partsOfAName(checks);
        nameOfNothing(checks);
        parents(checks);
        parentOfOnePart(checks);
        manyEntries(checks);
        manyPairs(checks);
        differentPairs(checks);
        everyParent(checks);
        ownParts(checks);
        atFirst(checks);
        inTheirOrder(checks);
        checks.end();
    }

    private static String letter(int b) {
        return String.valueOf((char) b);
    }

    private static int addCode(Checks checks, byte[] attribute) {
        return Desk.codeWhenSigned(checks, Bytes.add("b=1", Bytes.attribute("b", "1"), attribute));
    }

    private static int modifyCode(Checks checks, byte[] change) {
        return Desk.codeWhenSigned(checks, Bytes.modify("a=r", change));
    }

    /** 32 if it is a name, since there is no such entry; 34 if it is none. */
    private static int deleteCode(Checks checks, String name) {
        return Desk.codeWhenSigned(checks, Bytes.delete(name));
    }

    private static void types(Checks checks) {
        Sentence s = new Sentence(checks, "TYPES are the letters a .. f");
        for (int b = 0; b < 256; b++) {
            boolean isType = b >= 'a' && b <= 'f';
            String type = letter(b);
            s.side(isType, b + " in ADD", addCode(checks, Bytes.attribute(type, "2")), isType ? 0 : 17);
            s.side(isType, b + " in ADD without values", addCode(checks, Bytes.attribute(type)), isType ? 0 : 17);
            s.side(isType, b + " in a change 0", modifyCode(checks, Bytes.change(0, type)), isType ? 0 : 17);
            s.side(isType, b + " in a change 1", modifyCode(checks, Bytes.change(1, type, "q")), isType ? 16 : 17);
            s.side(isType, b + " in a change 2", modifyCode(checks, Bytes.change(2, type, "r")), isType ? 0 : 17);
            s.side(isType, b + " in a name", deleteCode(checks, type + "=q"), isType ? 32 : 34);
            s.side(isType, b + " in a name's last part", deleteCode(checks, "a=q," + type + "=q"), isType ? 32 : 34);
            s.side(isType, b + " in a list", wanted(checks, type), b == 'a' || b == 'f' ? type : "");
        }
        s.end();
    }

    /** The types that are answered of a=r, with the pairs a r and f x, when this text is the list. */
    private static String wanted(Checks checks, String text) {
        Desk x = new Desk(checks);
        x.code(Bytes.search("a=r", 0, 0, 0, Bytes.all(), text));
        String answer = Bytes.shown(x.answer());
        byte[] last = Bytes.last(7, 101, 0, "");
        for (String type : new String[] {"a", "f"}) {
            byte[] one = Bytes.found(7, "a=r", Bytes.attribute(type, type.equals("a") ? "r" : "x"));
            if (answer.equals(Bytes.shown(Bytes.join(one, last)))) {
                return type;
            }
        }
        return answer.equals(Bytes.shown(Bytes.join(Bytes.found(7, "a=r"), last))) ? "" : answer;
    }

    private static void typeTexts(Checks checks) {
        Sentence s = new Sentence(checks, "as a text of one byte; any other text is no type.");
        for (String text : new String[] {"", "c", "cc", "ac", "ca", "c ", " c", "c\0", "cccccccc"}) {
            boolean isType = text.equals("c");
            s.side(isType, "'" + text + "' in ADD", addCode(checks, Bytes.attribute(text, "2")), isType ? 0 : 17);
            s.side(isType, "'" + text + "' in a change", modifyCode(checks, Bytes.change(0, text, "2")), isType ? 0 : 17);
            s.side(isType, "'" + text + "' in a name", deleteCode(checks, text + "=q"), isType ? 32 : 34);
        }
        for (String text : new String[] {"", "f", "ff", "af", "fa"}) {
            s.side(text.equals("f"), "'" + text + "' in a list", wanted(checks, text), text.equals("f") ? "f" : "");
        }
        s.end();
    }

    private static void valueBytes(Checks checks) {
        Sentence s = new Sentence(checks, "each one of a .. z or 0 .. 9.");
        for (int b = 0; b < 256; b++) {
            boolean isIn = b >= 'a' && b <= 'z' || b >= '0' && b <= '9';
            for (String value : new String[] {letter(b), letter(b) + "qqqqqqq", "qqqqqqq" + letter(b), "qqq" + letter(b) + "qqqq"}) {
                s.side(isIn, b + " in ADD", addCode(checks, Bytes.attribute("c", value)), isIn ? 0 : 21);
                s.side(isIn, b + " in a change 0", modifyCode(checks, Bytes.change(0, "c", value)), isIn ? 0 : 21);
                s.side(isIn, b + " in a change 1", modifyCode(checks, Bytes.change(1, "c", value)), isIn ? 16 : 21);
                s.side(isIn, b + " in a change 2", modifyCode(checks, Bytes.change(2, "c", value)), isIn ? 0 : 21);
            }
            // A comma behind a part begins another one, which is none here: so these are no names either.
            s.side(isIn, b + " alone in a name", deleteCode(checks, "c=" + letter(b)), isIn ? 32 : 34);
            s.side(isIn, b + " last in a name", deleteCode(checks, "c=q" + letter(b)), isIn ? 32 : 34);
            s.side(isIn, b + " first in a name", deleteCode(checks, "c=" + letter(b) + "q"), isIn ? 32 : 34);
        }
        s.end();
    }

    private static void valueLengths(Checks checks) {
        Sentence s = new Sentence(checks, "A VALUE is a text of one to eight bytes");
        for (int length = 0; length <= 17; length++) {
            boolean isIn = length >= 1 && length <= 8;
            String value = "q".repeat(length);
            s.side(isIn, length + " in ADD", addCode(checks, Bytes.attribute("c", value)), isIn ? 0 : 21);
            s.side(isIn, length + " in a change 0", modifyCode(checks, Bytes.change(0, "c", value)), isIn ? 0 : 21);
            s.side(isIn, length + " in a change 1", modifyCode(checks, Bytes.change(1, "c", value)), isIn ? 16 : 21);
            s.side(isIn, length + " in a change 2", modifyCode(checks, Bytes.change(2, "c", value)), isIn ? 0 : 21);
            s.side(isIn, length + " in a name", deleteCode(checks, "c=" + value), isIn ? 32 : 34);
            s.side(isIn, length + " in a name's first part", deleteCode(checks, "c=" + value + ",a=s"), isIn ? 32 : 34);
            s.side(isIn, length + " in a name's last part", deleteCode(checks, "a=s,c=" + value), isIn ? 32 : 34);
        }
        Desk x = Desk.signedOn(checks);
        x.gives("add", Bytes.modify("a=r", Bytes.change(0, "c", "q", "qqqqqqqq")), 0);
        s.inside("they are told whole", x.shown(0), "1: a=r f=x c=q c=qqqqqqqq");
        s.end();
    }

    private static void lessValues(Checks checks) {
        Sentence s = new Sentence(checks, "Of two values the less one is that with the less byte at the first place where"
                + " they differ, or that which ends first.");
        String[] sorted = {"0", "00", "00000000", "0z", "1", "10", "19", "9", "9zzzzzzz", "a", "a0", "az", "b", "z",
            "zzzzzzz", "zzzzzzz0", "zzzzzzzz"};
        for (int i = 0; i < sorted.length; i++) {
            for (int k = 0; k < sorted.length; k++) {
                Desk x = Desk.signedOn(checks);
                x.gives("instead", Bytes.modify("a=r", Bytes.change(2, "d", sorted[i])), 0);
                String what = sorted[i] + " and " + sorted[k];
                s.side(i >= k, what + ", not less", x.names(Bytes.atLeast("d", sorted[k])), i >= k ? "a=r" : "");
                s.side(i <= k, what + ", not greater", x.names(Bytes.atMost("d", sorted[k])), i <= k ? "a=r" : "");
            }
        }
        s.end();
    }

    private static void nameParts(Checks checks) {
        Sentence s = new Sentence(checks, "A NAME is a text of one to four PARTS with commas between them");
        String name = "a=1";
        for (int parts = 1; parts <= 6; parts++) {
            s.side(parts <= 4, parts + " parts", deleteCode(checks, name), parts <= 4 ? 32 : 34);
            s.outside(parts + " parts and a comma behind", deleteCode(checks, name + ","), 34);
            s.outside(parts + " parts and a comma before", deleteCode(checks, "," + name), 34);
            name = "b=2," + name;
        }
        s.outside("no parts but a comma", deleteCode(checks, ","), 34);
        s.outside("two commas", deleteCode(checks, "a=1,,b=2"), 34);
        s.outside("no part", deleteCode(checks, ""), 34);
        String longest = "a=12345678,b=12345678,c=12345678,d=12345678";
        s.inside("four parts of full length", deleteCode(checks, longest), 32);
        s.outside("one byte more", deleteCode(checks, longest + "9"), 34);
        for (int b = 0; b < 256; b++) {
            boolean isComma = b == ',';
            boolean isValue = b >= 'a' && b <= 'z' || b >= '0' && b <= '9';
            // A byte of a value joins the two parts to one with a second '=' in its value.
            s.side(isComma, b + " between two parts", deleteCode(checks, "a=1" + letter(b) + "b=2"), isComma ? 32 : 34);
            s.side(isValue, b + " behind a part", deleteCode(checks, "a=1" + letter(b)), isValue ? 32 : 34);
        }
        s.end();
    }

    private static void partsOfAName(Checks checks) {
        Sentence s = new Sentence(checks, "a part being a type, the byte =, and a value");
        String[] wrong = {"", "c", "c=", "=3", "c3", "cc=3", "c==3", "c=3=", "c<3", "c>3", "g=3", "`=3", "c=123456789",
            "c= 3", "c =3", " c=3", "c=3 ", "c=C", "=", "c:3", "=c=3"};
        for (int place = 0; place < 4; place++) {
            String[] parts = {"a=1", "b=2", "c=3", "d=4"};
            s.inside("as it is", deleteCode(checks, String.join(",", parts)), 32);
            for (String part : wrong) {
                parts[place] = part;
                s.outside("part " + place + " is '" + part + "'", deleteCode(checks, String.join(",", parts)), 34);
            }
            parts[place] = "f=z";
            s.inside("part " + place + " is another one", deleteCode(checks, String.join(",", parts)), 32);
        }
        for (int b = 0; b < 256; b++) {
            s.side(b == '=', b + " between type and value", deleteCode(checks, "c" + letter(b) + "3"), b == '=' ? 32 : 34);
        }
        s.end();
    }

    private static void nameOfNothing(Checks checks) {
        Sentence s = new Sentence(checks, "the empty text is the NAME OF NOTHING.");
        s.inside("to sign on", Desk.codeForNobody(checks, Bytes.sign(3, "", "")), 0);
        s.outside("to sign on with a space", Desk.codeForNobody(checks, Bytes.sign(3, " ", "")), 34);
        s.inside("to search", Desk.codeForNobody(checks, Bytes.search("", 2, 0, 0, Bytes.all())), 0);
        s.outside("to search with a comma", Desk.codeForNobody(checks, Bytes.search(",", 2, 0, 0, Bytes.all())), 34);
        s.inside("to add", Desk.codeWhenSigned(checks, Bytes.add("", Bytes.attribute("a", "1"))), 34);
        s.inside("to modify", Desk.codeWhenSigned(checks, Bytes.modify("")), 34);
        s.inside("to delete", Desk.codeWhenSigned(checks, Bytes.delete("")), 34);
        s.end();
    }

    private static void parents(Checks checks) {
        Sentence s = new Sentence(checks, "A name's PARENT is what stands behind its first comma");
        Desk x = Desk.signedOn(checks);
        byte[] c = Bytes.attribute("c", "1");
        s.outside("three parts under no parent", x.code(Bytes.add("c=1,b=1,a=r", c)), 32);
        x.add("b=1");
        x.add("c=1,b=1");
        s.outside("its first two parts are one's name", x.code(Bytes.add("c=1,b=1,a=r", c)), 32);
        x.add("c=1,a=r");
        s.outside("its first and last parts are one's name", x.code(Bytes.add("c=1,b=1,a=r", c)), 32);
        x.add("b=1,a=r");
        s.inside("three parts under a parent", x.code(Bytes.add("c=1,b=1,a=r", c)), 0);
        s.inside("four parts under a parent", x.code(Bytes.add("c=1,c=1,b=1,a=r", c)), 0);
        s.inside("those under b=1,a=r", x.names("b=1,a=r", 1, 0, Bytes.all()), "c=1,b=1,a=r");
        s.inside("those under b=1", x.names("b=1", 1, 0, Bytes.all()), "c=1,b=1");
        s.inside("those under a=r", x.names("a=r", 1, 0, Bytes.all()), "c=1,a=r b=1,a=r");
        s.end();
    }

    private static void parentOfOnePart(Checks checks) {
        Sentence s = new Sentence(checks, "that of a name of one part is the name of nothing.");
        Desk x = Desk.signedOn(checks);
        x.add("b=1,a=r");
        x.add("b=1");
        s.inside("those under nothing", x.names("", 1, 0, Bytes.all()), "a=r b=1");
        s.outside("those under a=r", x.names("a=r", 1, 0, Bytes.all()), "b=1,a=r");
        s.inside("one part can go", x.code(Bytes.delete("b=1")), 0);
        s.inside("two parts can go", x.code(Bytes.delete("b=1,a=r")), 0);
        s.inside("the last one can go", x.code(Bytes.delete("a=r")), 0);
        s.outside("two parts where there is no entry", x.code(Bytes.add("b=1,a=r", Bytes.attribute("b", "1"))), 32);
        s.inside("one part where there is no entry", x.code(Bytes.add("b=1", Bytes.attribute("b", "1"))), 0);
        s.end();
    }

    private static void manyEntries(Checks checks) {
        Sentence s = new Sentence(checks, "ENTRIES, at most 16");
        Desk x = Desk.signedOn(checks);
        for (int count = 2; count <= 18; count++) {
            int code = x.code(Bytes.add("b=" + count, Bytes.attribute("b", "" + count)));
            s.side(count <= 16, count + " entries", code, count <= 16 ? 0 : 53);
            s.side(count <= 16, count + " entries are told", x.desk.entries(), Math.min(count, 16));
        }
        s.inside("one goes", x.code(Bytes.delete("b=9")), 0);
        s.inside("a sixteenth again", x.code(Bytes.add("b=9", Bytes.attribute("b", "9"))), 0);
        s.outside("a seventeenth again", x.code(Bytes.add("b=10,a=r", Bytes.attribute("b", "10"))), 53);
        s.inside("sixteen are told", x.desk.entries(), 16);
        s.end();
    }

    private static void manyPairs(Checks checks) {
        Sentence s = new Sentence(checks, "PAIRS of a type and a value, all different, at most 6, in an order.");
        for (int count = 1; count <= 8; count++) {
            String[] values = "1 2 3 4 5 6 7 8".substring(0, 2 * count - 1).split(" ");
            Desk x = Desk.signedOn(checks);
            boolean isIn = count <= 6;
            s.side(isIn, count + " added", x.code(Bytes.add("b=1", Bytes.attribute("b", values))), isIn ? 0 : 53);
            s.side(isIn, count + " told", x.desk.entry(1), isIn ? 1 + 8 * count : DirectoryDesk.BAD);
            x.add("b=0");
            int e = isIn ? 2 : 1;
            s.side(isIn, "one and " + (count - 1) + " more", x.code(Bytes.modify("b=0",
                    Bytes.change(0, "c", java.util.Arrays.copyOf(values, count - 1)))), isIn ? 0 : 53);
            s.side(isIn, count + " told of them", x.desk.entry(e), 1 + 8 * (isIn ? count : 1));
        }
        s.end();
    }

    private static void differentPairs(Checks checks) {
        Sentence s = new Sentence(checks, "PAIRS of a type and a value, all different");
        s.outside("the same twice", addCode(checks, Bytes.attribute("b", "1")), 20);
        s.inside("of another type", addCode(checks, Bytes.attribute("c", "1")), 0);
        s.inside("with another value", addCode(checks, Bytes.attribute("b", "2")), 0);
        s.inside("with a longer value", addCode(checks, Bytes.attribute("b", "11")), 0);
        s.outside("more of the same", modifyCode(checks, Bytes.change(0, "f", "x")), 20);
        s.inside("more of another type", modifyCode(checks, Bytes.change(0, "e", "x")), 0);
        s.inside("more with another value", modifyCode(checks, Bytes.change(0, "f", "w")), 0);
        s.outside("eight bytes twice", addCode(checks, Bytes.attribute("b", "qqqqqqqq", "qqqqqqqq")), 20);
        s.inside("eight bytes that differ last", addCode(checks, Bytes.attribute("b", "qqqqqqqq", "qqqqqqqr")), 0);
        s.inside("eight bytes that differ first", addCode(checks, Bytes.attribute("b", "qqqqqqqq", "rqqqqqqq")), 0);
        s.end();
    }

    private static void everyParent(Checks checks) {
        Sentence s = new Sentence(checks, "Every entry's parent is the name of an entry, or that of nothing");
        Desk x = Desk.signedOn(checks);
        x.add("b=1,a=r");
        s.outside("a parent may not go", x.code(Bytes.delete("a=r")), 66);
        s.outside("none may come without one", x.code(Bytes.add("c=1,b=2,a=r", Bytes.attribute("c", "1"))), 32);
        s.inside("all are there", x.names("", 2, 0, Bytes.all()), "a=r b=1,a=r");
        s.inside("one without children may go", x.code(Bytes.delete("b=1,a=r")), 0);
        s.inside("then its parent, too", x.code(Bytes.delete("a=r")), 0);
        s.end();
    }

    private static void ownParts(Checks checks) {
        Sentence s = new Sentence(checks, "its own part (the first one) is one of its pairs.");
        Desk x = Desk.signedOn(checks);
        s.outside("not the second one", x.code(Bytes.add("b=1,a=r", Bytes.attribute("a", "r"))), 64);
        s.inside("the first one", x.code(Bytes.add("b=1,a=r", Bytes.attribute("b", "1"))), 0);
        s.outside("it may not go", x.code(Bytes.modify("b=1,a=r", Bytes.change(1, "b", "1"))), 67);
        s.inside("it may go and come", x.code(Bytes.modify("b=1,a=r", Bytes.change(1, "b", "1"), Bytes.change(0, "b", "1"))), 0);
        s.inside("it is there", x.shown(1), "2: b=1");
        s.end();
    }

    private static void atFirst(Checks checks) {
        Sentence s = new Sentence(checks, "At first there is one entry, a=r, with the pairs a r and f x.");
        Desk x = new Desk(checks);
        s.inside("its parts and pairs", x.shownAll(), "1: a=r f=x");
        s.inside("its name", x.names("a=r", 0, 0, Bytes.all()), "a=r");
        s.outside("no other one", x.names("", 2, 0, Bytes.all()), "a=r");
        s.outside("no second one", x.desk.entry(1), DirectoryDesk.BAD);
        s.outside("no third pair", x.desk.pairType(0, 2), -1);
        s.end();
    }

    private static void inTheirOrder(Checks checks) {
        Sentence s = new Sentence(checks, "Entries are in the order in which they were added.");
        Desk x = Desk.signedOn(checks);
        x.add("c=1");
        x.add("b=1");
        x.add("b=1,a=r");
        s.inside("they are", x.names("", 2, 0, Bytes.all()), "a=r c=1 b=1 b=1,a=r");
        x.gives("the first one changes", Bytes.modify("c=1", Bytes.change(0, "d", "1")), 0);
        s.inside("a change moves none", x.names("", 2, 0, Bytes.all()), "a=r c=1 b=1 b=1,a=r");
        x.gives("the second goes", Bytes.delete("c=1"), 0);
        s.outside("the others move up", x.names("", 2, 0, Bytes.all()), "a=r b=1 b=1,a=r");
        x.add("c=1");
        s.inside("it comes last", x.names("", 2, 0, Bytes.all()), "a=r b=1 b=1,a=r c=1");
        s.inside("it has only what was added", x.shownAll(), "1: a=r f=x / 1: b=1 / 2: b=1 / 1: c=1");
        x.gives("the last goes", Bytes.delete("c=1"), 0);
        s.outside("no other moves", x.names("", 2, 0, Bytes.all()), "a=r b=1 b=1,a=r");
        s.end();
    }
}
