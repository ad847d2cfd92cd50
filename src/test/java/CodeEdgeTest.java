/** The edges of signing on, adding, deleting and modifying: where each code begins, and which one comes first. */
public final class CodeEdgeTest {
    public static void main(String[] args) {
        Checks checks = new Checks("CodeEdgeTest");
        versions(checks);
        signNames(checks);
        noPassword(checks);
        passwordForNothing(checks);
        passwords(checks);
        signedOn(checks);
        firstOfSign(checks);
        nobody(checks);
        noName(checks);
        addThere(checks);
        addParent(checks);
        addTypesAndValues(checks);
        addInOrderOfBytes(checks);
        addWithoutValues(checks);
        addOwnPart(checks);
        addTooMany(checks);
        added(checks);
        deleteThere(checks);
        deleteParent(checks);
        deleted(checks);
        modifyThere(checks);
        modifyTypes(checks);
        modifyMore(checks);
        modifyLess(checks);
        modifyInstead(checks);
        modifyAll(checks);
        modifyOwnPart(checks);
        modifyTooMany(checks);
        modifyCopy(checks);
        checks.end();
    }

    private static int sign(Checks checks, int version, String name, String password) {
        return Desk.codeForNobody(checks, Bytes.sign(version, name, password));
    }

    private static void versions(Checks checks) {
        Sentence s = new Sentence(checks, "SIGN: 2, the version is not 3");
        for (int version : new int[] {-32768, -4, -3, 0, 1, 2, 3, 4, 127, 128, 255, 256, 259, 768, 32767}) {
            s.side(version == 3, "" + version, sign(checks, version, "a=r", "x"), version == 3 ? 0 : 2);
        }
        s.end();
    }

    private static void signNames(Checks checks) {
        Sentence s = new Sentence(checks, "34, the name is neither a name nor that of nothing");
        s.outside("a name", sign(checks, 3, "a=r", "x"), 0);
        s.outside("a name of four parts", sign(checks, 3, "a=1,b=2,c=3,d=4", "x"), 49);
        s.inside("five parts", sign(checks, 3, "a=1,b=2,c=3,d=4,e=5", "x"), 34);
        s.outside("nothing", sign(checks, 3, "", ""), 0);
        s.inside("one byte", sign(checks, 3, "a", ""), 34);
        s.inside("a comma behind", sign(checks, 3, "a=r,", "x"), 34);
        s.inside("a byte 0 behind", sign(checks, 3, "a=r\0", "x"), 34);
        s.end();
    }

    private static void noPassword(Checks checks) {
        Sentence s = new Sentence(checks, "53, the name is a name and the password has no bytes");
        s.inside("no bytes", sign(checks, 3, "a=r", ""), 53);
        s.outside("one byte", sign(checks, 3, "a=r", "x"), 0);
        s.outside("one byte that is no value", sign(checks, 3, "a=r", "\0"), 49);
        s.inside("no bytes for no entry", sign(checks, 3, "a=s", ""), 53);
        s.outside("one byte for no entry", sign(checks, 3, "a=s", "x"), 49);
        s.outside("no bytes for nothing", sign(checks, 3, "", ""), 0);
        s.end();
    }

    private static void passwordForNothing(Checks checks) {
        Sentence s = new Sentence(checks, "49, the name is that of nothing and the password has bytes");
        s.outside("no bytes", sign(checks, 3, "", ""), 0);
        for (int b = 0; b < 256; b++) {
            s.inside("the byte " + b, sign(checks, 3, "", String.valueOf((char) b)), 49);
        }
        s.inside("nine bytes", sign(checks, 3, "", "xxxxxxxxx"), 49);
        s.end();
    }

    private static void passwords(Checks checks) {
        Sentence s = new Sentence(checks, "or there is no entry of that name with the pair f and the password.");
        for (int b = 0; b < 256; b++) {
            s.side(b != 'x', "the byte " + b, sign(checks, 3, "a=r", String.valueOf((char) b)), b == 'x' ? 0 : 49);
        }
        s.inside("two bytes", sign(checks, 3, "a=r", "xx"), 49);
        s.inside("a byte 0 behind", sign(checks, 3, "a=r", "x\0"), 49);
        s.inside("a byte 0 before", sign(checks, 3, "a=r", "\0x"), 49);
        s.inside("eight bytes more", sign(checks, 3, "a=r", "x\0\0\0\0\0\0\0\0"), 49);
        s.inside("eight bytes before", sign(checks, 3, "a=r", "\0\0\0\0\0\0\0\0x"), 49);
        s.inside("no entry", sign(checks, 3, "a=s", "x"), 49);
        s.inside("a name under it", sign(checks, 3, "a=r,a=r", "x"), 49);
        Desk x = Desk.signedOn(checks);
        x.gives("add", Bytes.add("b=1,a=r", Bytes.attribute("b", "1"), Bytes.attribute("f", "12345678", "9"),
                Bytes.attribute("e", "e")), 0);
        x.gives("add", Bytes.add("b=1", Bytes.attribute("b", "1"), Bytes.attribute("e", "x")), 0);
        String name = "b=1,a=r";
        s.outside("eight bytes", x.code(Bytes.sign(3, name, "12345678")), 0);
        s.inside("seven bytes of eight", x.code(Bytes.sign(3, name, "1234567")), 49);
        s.inside("nine bytes", x.code(Bytes.sign(3, name, "123456789")), 49);
        s.inside("another last byte", x.code(Bytes.sign(3, name, "12345679")), 49);
        s.outside("a second pair f", x.code(Bytes.sign(3, name, "9")), 0);
        s.inside("a pair e", x.code(Bytes.sign(3, name, "e")), 49);
        s.inside("the own part", x.code(Bytes.sign(3, name, "1")), 49);
        s.inside("that of its parent", x.code(Bytes.sign(3, name, "x")), 49);
        s.inside("that of its child", x.code(Bytes.sign(3, "a=r", "9")), 49);
        s.inside("an entry without f", x.code(Bytes.sign(3, "b=1", "x")), 49);
        s.end();
    }

    private static void signedOn(Checks checks) {
        Sentence s = new Sentence(checks, "With 0 one is SIGNED ON as that name (or as nobody, for that of nothing),"
                + " otherwise as nobody.");
        Object[][] tries = {{3, "a=r", "x", 0}, {2, "a=r", "x", 2}, {4, "a=r", "x", 2}, {3, "a=r,", "x", 34},
            {3, "a=r", "", 53}, {3, "", "x", 49}, {3, "a=r", "y", 49}, {3, "a=s", "x", 49}, {3, "", "", 0}};
        for (Object[] one : tries) {
            byte[] sign = Bytes.sign((int) one[0], (String) one[1], (String) one[2]);
            boolean isOn = one[1].equals("a=r") && (int) one[3] == 0;
            Desk before = Desk.signedOn(checks);
            s.side(isOn, one[0] + " " + one[1] + " " + one[2] + " when signed on",
                    before.code(sign) + " " + before.desk.signed(), one[3] + " " + isOn);
            s.side(isOn, "what may be done then", before.code(Bytes.delete("a=r")), isOn ? 0 : 50);
            Desk nobody = new Desk(checks);
            s.side(isOn, one[0] + " " + one[1] + " " + one[2] + " for nobody",
                    nobody.code(sign) + " " + nobody.desk.signed(), one[3] + " " + isOn);
        }
        s.end();
    }

    private static void firstOfSign(Checks checks) {
        Sentence s = new Sentence(checks, "Otherwise the code is the first of these that holds, or 0:");
        s.inside("2 before 34", sign(checks, 2, "?", "x"), 2);
        s.outside("34 then", sign(checks, 3, "?", "x"), 34);
        s.inside("2 before 53", sign(checks, 2, "a=r", ""), 2);
        s.outside("53 then", sign(checks, 3, "a=r", ""), 53);
        s.inside("2 before 49", sign(checks, 2, "", "x"), 2);
        s.outside("49 then", sign(checks, 3, "", "x"), 49);
        s.inside("34 and no password", sign(checks, 3, "?", ""), 34);
        s.inside("53 before 49", sign(checks, 3, "a=s", ""), 53);
        s.outside("0 when none holds", sign(checks, 3, "a=r", "x"), 0);
        s.end();
    }

    private static void nobody(Checks checks) {
        Sentence s = new Sentence(checks, "ADD, DELETE, MODIFY: 50, nobody is signed on");
        byte[][] good = {Bytes.add("b=1", Bytes.attribute("b", "1")), Bytes.delete("a=r"), Bytes.modify("a=r")};
        byte[][] noName = {Bytes.add("?"), Bytes.delete("?"), Bytes.modify("?")};
        byte[][] noEntry = {Bytes.add("b=1,a=s"), Bytes.delete("a=s"), Bytes.modify("a=s")};
        for (int i = 0; i < 3; i++) {
            Desk x = new Desk(checks);
            s.inside(i + " on a new object", x.code(good[i]), 50);
            s.inside(i + " with no name", x.code(noName[i]), 50);
            s.inside(i + " with no entry", x.code(noEntry[i]), 50);
            s.inside(i + " tells no nearest name", Bytes.shown(x.answer()),
                    Bytes.shown(Bytes.last(7, new int[] {105, 107, 103}[i], 50, "")));
            s.inside(i + " does nothing", x.shownAll(), "1: a=r f=x");
            x.gives("sign on as nobody", Bytes.sign(3, "", ""), 0);
            s.inside(i + " as nobody", x.code(good[i]), 50);
            x.gives("sign on", Bytes.sign(3, "a=r", "x"), 0);
            s.outside(i + " as a=r", x.code(good[i]), 0);
            x.desk.connect();
            s.inside(i + " after connect", x.code(good[i]), 50);
        }
        s.end();
    }

    private static void noName(Checks checks) {
        Sentence s = new Sentence(checks, "34, it is no name. Then");
        for (String name : new String[] {"", "?", "a", "a=r,", "a=1,b=2,c=3,d=4,e=5"}) {
            s.inside("ADD " + name, Desk.codeWhenSigned(checks, Bytes.add(name, Bytes.attribute("?", "?"))), 34);
            s.inside("DELETE " + name, Desk.codeWhenSigned(checks, Bytes.delete(name)), 34);
            s.inside("MODIFY " + name, Desk.codeWhenSigned(checks, Bytes.modify(name, Bytes.change(0, "?", "?"))), 34);
        }
        String four = "a=1,b=2,c=3,d=4";
        s.outside("ADD", Desk.codeWhenSigned(checks, Bytes.add(four)), 32);
        s.outside("DELETE", Desk.codeWhenSigned(checks, Bytes.delete(four)), 32);
        s.outside("MODIFY", Desk.codeWhenSigned(checks, Bytes.modify(four)), 32);
        s.end();
    }

    private static void addThere(Checks checks) {
        Sentence s = new Sentence(checks, "ADD: 68, there is such an entry");
        s.inside("the same name", Desk.codeWhenSigned(checks, Bytes.add("a=r", Bytes.attribute("a", "r"))), 68);
        s.outside("another value", Desk.codeWhenSigned(checks, Bytes.add("a=s", Bytes.attribute("a", "s"))), 0);
        s.outside("another type", Desk.codeWhenSigned(checks, Bytes.add("b=r", Bytes.attribute("b", "r"))), 0);
        s.outside("a longer value", Desk.codeWhenSigned(checks, Bytes.add("a=rr", Bytes.attribute("a", "rr"))), 0);
        s.outside("one under it", Desk.codeWhenSigned(checks, Bytes.add("a=r,a=r", Bytes.attribute("a", "r"))), 0);
        s.inside("before 17", Desk.codeWhenSigned(checks, Bytes.add("a=r", Bytes.attribute("?", "?"))), 68);
        s.inside("before 64", Desk.codeWhenSigned(checks, Bytes.add("a=r")), 68);
        Desk x = full(checks);
        s.inside("before 53", x.code(Bytes.add("b=5", Bytes.attribute("b", "5"))), 68);
        s.outside("53 then", x.code(Bytes.add("b=0", Bytes.attribute("b", "0"))), 53);
        s.end();
    }

    /** A desk with the sixteen entries a=r, b=2 .. b=16. */
    private static Desk full(Checks checks) {
        Desk x = Desk.signedOn(checks);
        for (int i = 2; i <= 16; i++) {
            x.add("b=" + i);
        }
        return x;
    }

    private static void addParent(Checks checks) {
        Sentence s = new Sentence(checks, "32, its parent is neither an entry's name nor that of nothing");
        byte[] own = Bytes.attribute("b", "1");
        s.outside("that of nothing", Desk.codeWhenSigned(checks, Bytes.add("b=1", own)), 0);
        s.outside("an entry's name", Desk.codeWhenSigned(checks, Bytes.add("b=1,a=r", own)), 0);
        s.inside("another value", Desk.codeWhenSigned(checks, Bytes.add("b=1,a=s", own)), 32);
        s.inside("another type", Desk.codeWhenSigned(checks, Bytes.add("b=1,b=r", own)), 32);
        s.inside("only its parent is one", Desk.codeWhenSigned(checks, Bytes.add("b=1,b=2,a=r", own)), 32);
        s.inside("before 17", Desk.codeWhenSigned(checks, Bytes.add("b=1,a=s", Bytes.attribute("?", "?"))), 32);
        s.inside("before 64", Desk.codeWhenSigned(checks, Bytes.add("b=1,a=s")), 32);
        s.inside("before 53", full(checks).code(Bytes.add("b=1,a=s", own)), 32);
        s.end();
    }

    private static int add(Checks checks, byte[]... attributes) {
        return Desk.codeWhenSigned(checks, Bytes.add("b=1,a=r", attributes));
    }

    private static void addTypesAndValues(Checks checks) {
        byte[] own = Bytes.attribute("b", "1");
        Sentence type = new Sentence(checks, "17, what should be a type is none");
        type.inside("g", add(checks, own, Bytes.attribute("g", "1")), 17);
        type.outside("f", add(checks, own, Bytes.attribute("f", "1")), 0);
        type.inside("`", add(checks, own, Bytes.attribute("`", "1")), 17);
        type.outside("a", add(checks, own, Bytes.attribute("a", "1")), 0);
        type.end();
        Sentence value = new Sentence(checks, "21, what should be a value is none");
        value.inside("no bytes", add(checks, own, Bytes.attribute("c", "")), 21);
        value.outside("one byte", add(checks, own, Bytes.attribute("c", "1")), 0);
        value.outside("eight bytes", add(checks, own, Bytes.attribute("c", "12345678")), 0);
        value.inside("nine bytes", add(checks, own, Bytes.attribute("c", "123456789")), 21);
        value.end();
        Sentence twice = new Sentence(checks, "20, a pair stands there twice");
        twice.inside("at once", add(checks, own, Bytes.attribute("c", "1", "1")), 20);
        twice.inside("in two attributes", add(checks, own, Bytes.attribute("c", "1"), Bytes.attribute("c", "1")), 20);
        twice.inside("the first and the last", add(checks, own, Bytes.attribute("c", "1", "2"), Bytes.attribute("b", "1")), 20);
        twice.inside("more than six, the last one twice", add(checks, own,
                Bytes.attribute("c", "1", "2", "3", "4", "5", "6", "7", "7")), 20);
        twice.outside("the same value of two types", add(checks, own, Bytes.attribute("c", "1")), 0);
        twice.outside("two values of a type", add(checks, own, Bytes.attribute("c", "1", "2")), 0);
        twice.outside("a type twice", add(checks, own, Bytes.attribute("b", "2")), 0);
        twice.end();
    }

    private static void addInOrderOfBytes(Checks checks) {
        Sentence s = new Sentence(checks, "17, 21 and 20 are looked for in the order of the bytes, for each value first"
                + " its type, then itself, then whether it was there");
        byte[] own = Bytes.attribute("b", "1");
        byte[] noType = Bytes.attribute("?", "1");
        byte[] noValue = Bytes.attribute("c", "?");
        byte[] twice = Bytes.attribute("b", "1");
        s.inside("17, 21", add(checks, own, noType, noValue), 17);
        s.outside("21, 17", add(checks, own, noValue, noType), 21);
        s.inside("17, 20", add(checks, own, noType, twice), 17);
        s.outside("20, 17", add(checks, own, twice, noType), 20);
        s.inside("21, 20", add(checks, own, noValue, twice), 21);
        s.outside("20, 21", add(checks, own, twice, noValue), 20);
        s.inside("17 and 21 of one value", add(checks, own, Bytes.attribute("?", "?")), 17);
        s.inside("21 before 20 in an attribute", add(checks, Bytes.attribute("b", "1", "?", "1")), 21);
        s.outside("20 before 21 in an attribute", add(checks, Bytes.attribute("b", "1", "1", "?")), 20);
        s.inside("no value twice", add(checks, own, Bytes.attribute("c", "", "")), 21);
        s.inside("no type twice", add(checks, own, Bytes.attribute("?", "1", "1")), 17);
        s.end();
    }

    private static void addWithoutValues(Checks checks) {
        Sentence s = new Sentence(checks, "the type of an attribute without values is looked at, too.");
        byte[] own = Bytes.attribute("b", "1");
        s.inside("no type", add(checks, own, Bytes.attribute("g")), 17);
        s.outside("a type", add(checks, own, Bytes.attribute("f")), 0);
        s.inside("no type, first", add(checks, Bytes.attribute(""), own), 17);
        s.inside("before a later 21", add(checks, Bytes.attribute("g"), Bytes.attribute("b", "?")), 17);
        s.outside("behind an earlier 21", add(checks, Bytes.attribute("b", "?"), Bytes.attribute("g")), 21);
        s.end();
    }

    private static void addOwnPart(Checks checks) {
        Sentence s = new Sentence(checks, "64, its own part is not among the pairs");
        s.outside("alone", add(checks, Bytes.attribute("b", "1")), 0);
        s.outside("last of six", add(checks, Bytes.attribute("c", "1", "2", "3", "4", "5"), Bytes.attribute("b", "1")), 0);
        s.inside("no pairs", add(checks), 64);
        s.inside("no values", add(checks, Bytes.attribute("b")), 64);
        s.inside("another value", add(checks, Bytes.attribute("b", "2")), 64);
        s.inside("a longer value", add(checks, Bytes.attribute("b", "11")), 64);
        s.inside("another type", add(checks, Bytes.attribute("c", "1")), 64);
        s.inside("the part of its parent", add(checks, Bytes.attribute("a", "r")), 64);
        s.outside("20 comes before", add(checks, Bytes.attribute("c", "1", "1")), 20);
        s.inside("before 53 of the pairs", add(checks, Bytes.attribute("c", "1", "2", "3", "4", "5", "6", "7")), 64);
        s.inside("before 53 of the entries", full(checks).code(Bytes.add("b=0", Bytes.attribute("b", "1"))), 64);
        s.end();
    }

    private static void addTooMany(Checks checks) {
        Sentence s = new Sentence(checks, "53, there are 16 entries, or it has more than 6 pairs.");
        byte[] add = Bytes.add("b=0", Bytes.attribute("b", "0"));
        Desk x = full(checks);
        s.inside("16 entries", x.code(add), 53);
        s.inside("they stay 16", x.desk.entries(), 16);
        x.gives("one goes", Bytes.delete("b=16"), 0);
        s.outside("15 entries", x.code(add), 0);
        s.outside("then they are 16", x.desk.entries(), 16);
        s.outside("six pairs", add(checks, Bytes.attribute("b", "1", "2", "3", "4", "5", "6")), 0);
        s.inside("seven pairs", add(checks, Bytes.attribute("b", "1", "2", "3", "4", "5", "6", "7")), 53);
        s.inside("seven pairs and 16 entries", x.code(Bytes.add("c=1", Bytes.attribute("c", "1", "2", "3", "4", "5", "6", "7"))), 53);
        s.end();
    }

    private static void added(Checks checks) {
        Sentence s = new Sentence(checks, "With 0 it is added, with its pairs in their order.");
        Desk x = Desk.signedOn(checks);
        x.code(Bytes.add("b=1,a=r", Bytes.attribute("d", "9", "1"), Bytes.attribute("b", "2", "1"), Bytes.attribute("a"),
                Bytes.attribute("d", "5"), Bytes.attribute("a", "r")));
        s.inside("0", x.shownAll(), "1: a=r f=x / 2: d=9 d=1 b=2 b=1 d=5 a=r");
        x.code(Bytes.add("b=2,a=r", Bytes.attribute("b", "1")));
        s.outside("64", x.desk.entries(), 2);
        x.code(Bytes.add("b=2", Bytes.attribute("b", "2")));
        s.inside("0 again", x.shown(2), "1: b=2");
        x.gives("changes of other kinds", Bytes.modify("b=2", Bytes.change(2, "c"), Bytes.change(2, "c"),
                Bytes.change(2, "c", "1"), Bytes.change(1, "c")), 0);
        x.code(Bytes.add("b=3", Bytes.attribute("b", "3"), Bytes.attribute("b", "4"), Bytes.attribute("b", "5"),
                Bytes.attribute("c", "1")));
        s.outside("kinds of a MODIFY before it mean nothing", x.shown(3), "1: b=3 b=4 b=5 c=1");
        s.end();
    }

    private static void deleteThere(Checks checks) {
        Sentence s = new Sentence(checks, "DELETE: 32, there is no such entry");
        s.outside("there is", Desk.codeWhenSigned(checks, Bytes.delete("a=r")), 0);
        for (String name : new String[] {"a=s", "b=r", "a=rr", "a=r,a=r", "a=12345678", "b=1,a=r"}) {
            Desk x = Desk.signedOn(checks);
            s.inside(name, x.code(Bytes.delete(name)), 32);
            s.inside(name + ", nothing goes", x.desk.entries(), 1);
        }
        s.end();
    }

    private static void deleteParent(Checks checks) {
        Sentence s = new Sentence(checks, "66, it is the parent of one.");
        Desk x = Desk.signedOn(checks);
        x.add("b=1,a=r");
        x.add("c=1,b=1,a=r");
        x.add("d=1,c=1,b=1,a=r");
        x.add("a=r,b=1,a=r");
        s.inside("of one part", x.code(Bytes.delete("a=r")), 66);
        s.inside("of two parts", x.code(Bytes.delete("b=1,a=r")), 66);
        s.inside("of three parts", x.code(Bytes.delete("c=1,b=1,a=r")), 66);
        s.outside("of four parts", x.code(Bytes.delete("d=1,c=1,b=1,a=r")), 0);
        s.outside("when its child is gone", x.code(Bytes.delete("c=1,b=1,a=r")), 0);
        s.inside("when another one is there", x.code(Bytes.delete("b=1,a=r")), 66);
        s.outside("which begins like a parent", x.code(Bytes.delete("a=r,b=1,a=r")), 0);
        s.outside("when both are gone", x.code(Bytes.delete("b=1,a=r")), 0);
        s.outside("when nothing is under it", x.code(Bytes.delete("a=r")), 0);
        s.end();
    }

    private static void deleted(Checks checks) {
        Sentence s = new Sentence(checks, "With 0 it is gone. (One stays signed on.)");
        Desk x = Desk.signedOn(checks);
        x.add("b=1,a=r");
        x.code(Bytes.delete("a=r"));
        s.outside("66", x.desk.entries() + " " + x.desk.signed(), "2 true");
        x.code(Bytes.delete("b=1,a=r"));
        s.inside("0", x.shownAll() + " " + x.desk.signed(), "1: a=r f=x true");
        x.code(Bytes.delete("a=r"));
        s.inside("0 of the one that is signed on", x.desk.entries() + " " + x.desk.signed(), "0 true");
        x.add("c=1");
        s.inside("it may add", x.shownAll(), "1: c=1");
        s.outside("it can't sign on again", x.code(Bytes.sign(3, "a=r", "x")), 49);
        s.end();
    }

    private static int modify(Checks checks, byte[]... changes) {
        return Desk.codeWhenSigned(checks, Bytes.modify("a=r", changes));
    }

    private static void modifyThere(Checks checks) {
        Sentence s = new Sentence(checks, "MODIFY: 32; then for each change in order, on a copy of the pairs");
        s.outside("there is", Desk.codeWhenSigned(checks, Bytes.modify("a=r")), 0);
        s.inside("there is none", Desk.codeWhenSigned(checks, Bytes.modify("a=s")), 32);
        s.inside("before 17", Desk.codeWhenSigned(checks, Bytes.modify("a=s", Bytes.change(0, "?", "?"))), 32);
        s.inside("before 67", Desk.codeWhenSigned(checks, Bytes.modify("a=s", Bytes.change(2, "a"))), 32);
        s.outside("the first change first", modify(checks, Bytes.change(1, "f", "x"), Bytes.change(0, "f", "x")), 0);
        s.inside("the other way round", modify(checks, Bytes.change(0, "f", "x"), Bytes.change(1, "f", "x")), 20);
        s.end();
    }

    private static void modifyTypes(Checks checks) {
        Sentence s = new Sentence(checks, "17 for its type; then for each value in order 21");
        for (int kind = 0; kind <= 2; kind++) {
            s.inside("no type of kind " + kind, modify(checks, Bytes.change(kind, "g", "x")), 17);
            s.inside("no type of kind " + kind + " without values", modify(checks, Bytes.change(kind, "g")), 17);
            s.inside("no type, no value of kind " + kind, modify(checks, Bytes.change(kind, "", "")), 17);
            s.inside("no value of kind " + kind, modify(checks, Bytes.change(kind, "f", "")), 21);
            s.inside("nine bytes of kind " + kind, modify(checks, Bytes.change(kind, "f", "123456789")), 21);
            s.inside("no value behind one of kind " + kind, modify(checks, Bytes.change(kind, "f", kind == 1 ? "x" : "y", "?")), 21);
            s.inside("no value before 20 or 16 of kind " + kind, modify(checks, Bytes.change(kind, "f", "?", kind == 1 ? "q" : "x", "x")), 21);
            s.outside("eight bytes of kind " + kind, modify(checks, Bytes.change(kind, "f", "12345678")), kind == 1 ? 16 : 0);
        }
        s.inside("17 before a later 21", modify(checks, Bytes.change(0, "g"), Bytes.change(0, "f", "?")), 17);
        s.outside("21 before a later 17", modify(checks, Bytes.change(0, "f", "?"), Bytes.change(0, "g")), 21);
        s.inside("17 before a later 16", modify(checks, Bytes.change(0, "g"), Bytes.change(1, "e")), 17);
        s.outside("16 before a later 17", modify(checks, Bytes.change(1, "e"), Bytes.change(0, "g")), 16);
        s.end();
    }

    private static void modifyMore(Checks checks) {
        Sentence s = new Sentence(checks,
                "for kind 0 (more) 20 if the pair is there, otherwise it comes behind the others");
        s.inside("it is there", modify(checks, Bytes.change(0, "f", "x")), 20);
        s.inside("it is there, behind others", modify(checks, Bytes.change(0, "f", "y", "z", "x")), 20);
        s.inside("it is twice", modify(checks, Bytes.change(0, "e", "x", "x")), 20);
        s.inside("an earlier change put it there", modify(checks, Bytes.change(0, "e", "x"), Bytes.change(0, "e", "x")), 20);
        s.outside("an earlier change took it away", modify(checks, Bytes.change(1, "f", "x"), Bytes.change(0, "f", "x")), 0);
        Desk x = Desk.signedOn(checks);
        s.outside("others", x.code(Bytes.modify("a=r", Bytes.change(0, "f", "w", "y"), Bytes.change(0, "a", "x"))), 0);
        s.outside("they are behind", x.shown(0), "1: a=r f=x f=w f=y a=x");
        s.outside("none", x.code(Bytes.modify("a=r", Bytes.change(0, "f"))), 0);
        s.outside("nothing changes", x.shown(0), "1: a=r f=x f=w f=y a=x");
        s.end();
    }

    private static void modifyLess(Checks checks) {
        Sentence s = new Sentence(checks, "for kind 1 (less) 16 if it is not there, otherwise it goes");
        s.inside("another value", modify(checks, Bytes.change(1, "f", "y")), 16);
        s.inside("another type", modify(checks, Bytes.change(1, "e", "x")), 16);
        s.inside("it is twice", modify(checks, Bytes.change(1, "f", "x", "x")), 16);
        s.inside("an earlier change took it away", modify(checks, Bytes.change(2, "f"), Bytes.change(1, "f", "x")), 16);
        s.outside("an earlier change put it there", modify(checks, Bytes.change(0, "e", "x"), Bytes.change(1, "e", "x")), 0);
        Desk x = Desk.signedOn(checks);
        x.gives("more", Bytes.modify("a=r", Bytes.change(0, "f", "y", "z"), Bytes.change(0, "e", "y")), 0);
        s.outside("one in the middle", x.code(Bytes.modify("a=r", Bytes.change(1, "f", "y"))), 0);
        s.outside("it is gone", x.shown(0), "1: a=r f=x f=z e=y");
        s.outside("two at once, the last first", x.code(Bytes.modify("a=r", Bytes.change(1, "f", "z", "x"))), 0);
        s.outside("they are gone", x.shown(0), "1: a=r e=y");
        s.end();
    }

    private static void modifyInstead(Checks checks) {
        Sentence s = new Sentence(checks,
                "kind 2 (instead) takes all pairs of the type away first, then goes on like kind 0.");
        Desk x = Desk.signedOn(checks);
        s.inside("the same again", x.code(Bytes.modify("a=r", Bytes.change(2, "f", "x"))), 0);
        s.outside("20 if it is twice", x.code(Bytes.modify("a=r", Bytes.change(2, "f", "y", "y"))), 20);
        s.inside("two instead of one", x.code(Bytes.modify("a=r", Bytes.change(2, "f", "z", "x"), Bytes.change(0, "e", "1"))), 0);
        s.inside("they are there", x.shown(0), "1: a=r f=z f=x e=1");
        s.inside("one instead of two", x.code(Bytes.modify("a=r", Bytes.change(2, "f", "y"))), 0);
        s.inside("it is behind the others", x.shown(0), "1: a=r e=1 f=y");
        s.inside("none instead of one", x.code(Bytes.modify("a=r", Bytes.change(2, "f"))), 0);
        s.outside("those of other types stay", x.shown(0), "1: a=r e=1");
        s.inside("none instead of none", x.code(Bytes.modify("a=r", Bytes.change(2, "f"))), 0);
        s.inside("one instead of none", x.code(Bytes.modify("a=r", Bytes.change(2, "f", "q"))), 0);
        s.inside("it is there", x.shown(0), "1: a=r e=1 f=q");
        s.end();
    }

    private static void modifyAll(Checks checks) {
        Sentence s = new Sentence(checks, "A kind 1 without values takes all pairs of the type away; 16 if there are none.");
        s.inside("one", modify(checks, Bytes.change(1, "f")), 0);
        s.outside("none", modify(checks, Bytes.change(1, "e")), 16);
        s.outside("none any more", modify(checks, Bytes.change(1, "f"), Bytes.change(1, "f")), 16);
        s.inside("none again, then one", modify(checks, Bytes.change(1, "f"), Bytes.change(0, "f", "y"), Bytes.change(1, "f")), 0);
        Desk x = Desk.signedOn(checks);
        x.gives("more", Bytes.modify("a=r", Bytes.change(0, "f", "y"), Bytes.change(0, "e", "y"), Bytes.change(0, "f", "z")), 0);
        s.inside("three", x.code(Bytes.modify("a=r", Bytes.change(1, "f"))), 0);
        s.outside("those of other types stay", x.shown(0), "1: a=r e=y");
        s.end();
    }

    private static void modifyOwnPart(Checks checks) {
        Sentence s = new Sentence(checks, "Then 67, its own part is not among the pairs");
        s.inside("it goes", modify(checks, Bytes.change(1, "a", "r")), 67);
        s.inside("all of its type go", modify(checks, Bytes.change(1, "a")), 67);
        s.inside("another one instead", modify(checks, Bytes.change(2, "a", "s")), 67);
        s.inside("the same of another type", modify(checks, Bytes.change(1, "a"), Bytes.change(0, "b", "r")), 67);
        s.outside("it goes and comes", modify(checks, Bytes.change(1, "a"), Bytes.change(0, "a", "s", "r")), 0);
        s.outside("it is instead of itself", modify(checks, Bytes.change(2, "a", "r")), 0);
        s.outside("all others go", modify(checks, Bytes.change(1, "f")), 0);
        s.outside("a later 16 comes before", modify(checks, Bytes.change(1, "a"), Bytes.change(1, "e")), 16);
        s.inside("before 53", modify(checks, Bytes.change(2, "a", "1", "2", "3", "4", "5", "6")), 67);
        s.end();
    }

    private static void modifyTooMany(Checks checks) {
        Sentence s = new Sentence(checks, "53, there are more than 6.");
        s.outside("six", modify(checks, Bytes.change(0, "d", "1", "2", "3", "4")), 0);
        s.inside("seven", modify(checks, Bytes.change(0, "d", "1", "2", "3", "4", "5")), 53);
        s.outside("seven, then six", modify(checks, Bytes.change(0, "d", "1", "2", "3", "4", "5"), Bytes.change(1, "d", "1")), 0);
        s.outside("seven, then two", modify(checks, Bytes.change(0, "d", "1", "2", "3", "4", "5"), Bytes.change(1, "d")), 0);
        String[] many = "0 1 2 3 4 5 6 7 8 9 a b c d e f g h i j k l m".split(" ");
        s.outside("25, then six", modify(checks, Bytes.change(0, "d", many), Bytes.change(2, "d", "z")), 0);
        Desk x = Desk.signedOn(checks);
        x.gives("six", Bytes.modify("a=r", Bytes.change(0, "d", "1", "2", "3", "4")), 0);
        s.inside("one to six", x.code(Bytes.modify("a=r", Bytes.change(0, "e", "1"))), 53);
        s.inside("23 to six", x.code(Bytes.modify("a=r", Bytes.change(0, "e", many))), 53);
        String[] more = java.util.Arrays.copyOf(many, 24);
        more[23] = "n";
        s.inside("24 to six", x.code(Bytes.modify("a=r", Bytes.change(0, "e", more))), 53);
        more[23] = "m";
        s.outside("20 comes before", x.code(Bytes.modify("a=r", Bytes.change(0, "e", more))), 20);
        s.inside("the six stay", x.shown(0), "1: a=r f=x d=1 d=2 d=3 d=4");
        s.end();
    }

    private static void modifyCopy(Checks checks) {
        Sentence s = new Sentence(checks, "With 0 the copy is what it has.");
        Desk x = Desk.signedOn(checks);
        byte[] good = Bytes.change(0, "c", "1");
        byte[] gone = Bytes.change(1, "f", "x");
        byte[][] wrong = {Bytes.change(0, "g"), Bytes.change(0, "d", "?"), Bytes.change(0, "a", "r"),
            Bytes.change(1, "d"), Bytes.change(1, "a"), Bytes.change(0, "d", "1", "2", "3", "4", "5")};
        int[] codes = {17, 21, 20, 16, 67, 53};
        for (int i = 0; i < wrong.length; i++) {
            s.outside("" + codes[i], x.code(Bytes.modify("a=r", good, gone, wrong[i])) + " " + x.shown(0),
                    codes[i] + " 1: a=r f=x");
        }
        s.inside("0", x.code(Bytes.modify("a=r", good, gone)) + " " + x.shown(0), "0 1: a=r c=1");
        s.end();
    }
}
