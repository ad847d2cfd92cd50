/** Promises 4 and 7 to 10: signing on, adding, deleting and modifying, and what there is then. */
public final class ChangeTest {
    public static void main(String[] args) {
        Checks checks = new Checks("ChangeTest");
        signing(checks);
        names(checks);
        adding(checks);
        addingInOrder(checks);
        addingTooMuch(checks);
        deleting(checks);
        nearest(checks);
        modifying(checks);
        modifyingNothing(checks);
        firstCodes(checks);
        entriesAndPairs(checks);
        checks.end();
    }

    private static void signing(Checks checks) {
        Desk x = new Desk(checks);
        sign(checks, x, 3, "a=r", "x", 0, true);
        sign(checks, x, 2, "a=r", "x", 2, false);
        sign(checks, x, -3, "", "", 2, false);
        sign(checks, x, 3, "a=r", "x", 0, true);
        sign(checks, x, 259, "a=r", "x", 2, false);
        sign(checks, x, 2, "?", "x", 2, false);
        sign(checks, x, 3, "a=r", "x", 0, true);
        sign(checks, x, 3, "?", "", 34, false);
        sign(checks, x, 3, "a=r,", "x", 34, false);
        sign(checks, x, 3, "a=r", "x", 0, true);
        sign(checks, x, 3, "a=r", "", 53, false);
        sign(checks, x, 3, "b=1", "", 53, false);
        sign(checks, x, 3, "a=r", "x", 0, true);
        sign(checks, x, 3, "", "x", 49, false);
        sign(checks, x, 3, "b=1", "x", 49, false);
        sign(checks, x, 3, "a=r", "y", 49, false);
        sign(checks, x, 3, "a=r", "r", 49, false);
        sign(checks, x, 3, "a=r", "xx", 49, false);
        sign(checks, x, 3, "a=r", "X", 49, false);
        sign(checks, x, 3, "a=r", "xxxxxxxxx", 49, false);
        sign(checks, x, 3, "a=r", "\u00ff", 49, false);
        sign(checks, x, 3, "a=r", "x", 0, true);
        x.gives("a second password", Bytes.modify("a=r", Bytes.change(0, "f", "secret99")), 0);
        sign(checks, x, 3, "a=r", "secret99", 0, true);
        sign(checks, x, 3, "a=r", "x", 0, true);
        x.gives("another password", Bytes.modify("a=r", Bytes.change(2, "f", "0")), 0);
        sign(checks, x, 3, "a=r", "x", 49, false);
        sign(checks, x, 3, "a=r", "0", 0, true);
        sign(checks, x, 3, "", "", 0, false);
    }

    private static void sign(Checks checks, Desk x, int version, String name, String password, int code, boolean on) {
        String what = "sign " + version + " " + name + " " + password;
        x.gives(what, Bytes.sign(version, name, password), code);
        checks.same(what + ", signed", x.desk.signed(), on);
    }

    private static void names(Checks checks) {
        String[] none = {"", "a", "a=", "=r", "a=r,", ",a=r", "a=r,,a=r", "g=1", "A=r", "`=r", "a=R", "a=r ", " a=r",
            "aa=r", "a==r", "a=r=r", "a:r", "a=123456789", "a=1,b=2,c=3,d=4,e=5", "a=r, b=1", "a=r;b=1", "a=_",
            "a={", "a=/", "a=:", "a=\u00e9", "a=r,b", "a=r,b=", ",", "a=r\0", "a=r,b=?", "b=?,a=r", "g=1,a=r", "a=r,g=1",
            "a=r,123", "a=r,b-1", "b-1,a=r", "a=1,b=2,c=3,d=4,"};
        for (String name : none) {
            Desk x = Desk.signedOn(checks);
            x.gives("delete " + name, Bytes.delete(name), 34);
            x.gives("search " + name, Bytes.search(name, 0, 0, 0, Bytes.all()), name.isEmpty() ? 0 : 34);
        }
        String[] some = {"b=1", "f=z", "a=12345678", "a=0,a=9", "a=az,b=za", "a=1,b=2,c=3,d=4",
            "a=12345678,b=12345678,c=12345678,d=12345678"};
        for (String name : some) {
            Desk x = Desk.signedOn(checks);
            x.gives("delete " + name, Bytes.delete(name), 32);
            checks.same("nothing was deleted", x.desk.entries(), 1);
        }
    }

    private static void adding(Checks checks) {
        Desk x = Desk.signedOn(checks);
        byte[] own = Bytes.attribute("b", "1");
        x.gives("68", Bytes.add("a=r", Bytes.attribute("?", "?")), 68);
        x.gives("32", Bytes.add("b=1,c=2", Bytes.attribute("?", "?")), 32);
        x.gives("17", Bytes.add("b=1,a=r", own, Bytes.attribute("g", "1")), 17);
        x.gives("17 without values", Bytes.add("b=1,a=r", own, Bytes.attribute("")), 17);
        x.gives("17 of two letters", Bytes.add("b=1,a=r", own, Bytes.attribute("bb", "1")), 17);
        x.gives("21", Bytes.add("b=1,a=r", own, Bytes.attribute("c", "")), 21);
        x.gives("21 of nine bytes", Bytes.add("b=1,a=r", own, Bytes.attribute("c", "123456789")), 21);
        x.gives("21 of a capital letter", Bytes.add("b=1,a=r", own, Bytes.attribute("c", "A")), 21);
        x.gives("20", Bytes.add("b=1,a=r", own, Bytes.attribute("b", "1")), 20);
        x.gives("20 at once", Bytes.add("b=1,a=r", Bytes.attribute("b", "1", "1")), 20);
        x.gives("17 before 21", Bytes.add("b=1,a=r", Bytes.attribute("g", "?")), 17);
        x.gives("21 before a later 17", Bytes.add("b=1,a=r", Bytes.attribute("b", "?"), Bytes.attribute("g")), 21);
        x.gives("20 before a later 21", Bytes.add("b=1,a=r", Bytes.attribute("b", "1", "1", "?")), 20);
        x.gives("21 before a later 20", Bytes.add("b=1,a=r", Bytes.attribute("b", "1", "?", "1")), 21);
        x.gives("64 without pairs", Bytes.add("b=1,a=r"), 64);
        x.gives("64 with another value", Bytes.add("b=1,a=r", Bytes.attribute("b", "2")), 64);
        x.gives("64 with another type", Bytes.add("b=1,a=r", Bytes.attribute("a", "r"), Bytes.attribute("c", "1")), 64);
        checks.same("nothing was added", x.desk.entries(), 1);
        x.gives("0", Bytes.add("b=1,a=r", own), 0);
        checks.same("it was added", x.shown(1), "2: b=1");
        x.gives("68 now", Bytes.add("b=1,a=r", own), 68);
        x.gives("another at the top", Bytes.add("b=1", own), 0);
        checks.same("it has one part", x.shown(2), "1: b=1");
        x.gives("a name with the same value twice", Bytes.add("b=1,b=1,a=r", own), 0);
        checks.same("it has three parts", x.shown(3), "3: b=1");
        x.gives("four parts", Bytes.add("c=z,b=1,b=1,a=r", Bytes.attribute("c", "z")), 0);
        checks.same("it has four parts", x.shown(4), "4: c=z");
        x.gives("five parts", Bytes.add("c=z,c=z,b=1,b=1,a=r", Bytes.attribute("c", "z")), 34);
    }

    private static void addingInOrder(Checks checks) {
        Desk x = Desk.signedOn(checks);
        x.gives("pairs in their order", Bytes.add("b=1", Bytes.attribute("d", "9", "10"), Bytes.attribute("c"),
                Bytes.attribute("b", "2", "1"), Bytes.attribute("a", "12345678"), Bytes.attribute("d", "1")), 0);
        checks.same("they are", x.shown(1), "1: d=9 d=10 b=2 b=1 a=12345678 d=1");
        x.gives("the same value of other types", Bytes.add("c=1,b=1", Bytes.attribute("a", "1"),
                Bytes.attribute("b", "1"), Bytes.attribute("c", "1")), 0);
        checks.same("they are different", x.shown(2), "2: a=1 b=1 c=1");
    }

    private static void addingTooMuch(Checks checks) {
        Desk x = Desk.signedOn(checks);
        x.gives("7 pairs", Bytes.add("b=1", Bytes.attribute("b", "1", "2", "3", "4", "5", "6", "7")), 53);
        x.gives("6 pairs", Bytes.add("b=1", Bytes.attribute("b", "1", "2", "3", "4", "5", "6")), 0);
        x.gives("64 before 53", Bytes.add("b=2", Bytes.attribute("b", "1", "3", "4", "5", "6", "7", "8")), 64);
        for (int i = 2; i < 16; i++) {
            String value = "v" + i;
            x.gives("entry " + i, Bytes.add("c=" + value, Bytes.attribute("c", value)), 0);
        }
        checks.same("16 entries", x.desk.entries(), 16);
        x.gives("a 17th", Bytes.add("d=1", Bytes.attribute("d", "1")), 53);
        x.gives("a 17th without its part", Bytes.add("d=1", Bytes.attribute("d", "2")), 64);
        x.gives("a 17th that is there", Bytes.add("c=v9", Bytes.attribute("c", "v9")), 68);
        checks.same("still 16", x.desk.entries(), 16);
        x.gives("delete one", Bytes.delete("c=v2"), 0);
        x.gives("now there is a place", Bytes.add("d=1", Bytes.attribute("d", "1")), 0);
        checks.same("16 again", x.desk.entries(), 16);
        checks.same("the last one", x.shown(15), "1: d=1");
        checks.same("the one that moved up", x.shown(2), "1: c=v3");
        checks.same("no entry 16", x.desk.entry(16), -2);
        checks.same("no pair of entry 16", x.desk.pairType(16, 0), -1);
        checks.same("no value of entry 16", x.desk.pairValue(16, 0), -1L);
        x.gives("delete the last", Bytes.delete("d=1"), 0);
        checks.same("no entry 15", x.desk.entry(15), -2);
        checks.same("no pair of entry 15", x.desk.pairType(15, 0), -1);
        checks.same("no value of entry 15", x.desk.pairValue(15, 0), -1L);
    }

    private static void deleting(Checks checks) {
        Desk x = Desk.signedOn(checks);
        add(x, "b=1,a=r");
        add(x, "c=1,b=1,a=r");
        add(x, "b=2");
        x.gives("66 of the top", Bytes.delete("a=r"), 66);
        x.gives("66 in the middle", Bytes.delete("b=1,a=r"), 66);
        x.gives("32", Bytes.delete("b=1"), 32, "");
        x.gives("0", Bytes.delete("c=1,b=1,a=r"), 0);
        checks.same("three are left", x.desk.entries(), 3);
        checks.same("the others moved up", x.shown(2), "1: b=2");
        x.gives("32 now", Bytes.delete("c=1,b=1,a=r"), 32, "b=1,a=r");
        x.gives("0 in the middle now", Bytes.delete("b=1,a=r"), 0);
        x.gives("0 of the one that is signed on", Bytes.delete("a=r"), 0);
        checks.same("one stays signed on", x.desk.signed(), true);
        x.gives("0 of the last", Bytes.delete("b=2"), 0);
        checks.same("none is left", x.desk.entries(), 0);
        checks.same("no entry 0", x.desk.entry(0), -2);
        add(x, "d=1");
        checks.same("one again", x.shown(0), "1: d=1");
        x.gives("nobody can sign on as it", Bytes.sign(3, "d=1", "x"), 49);
    }

    private static void nearest(Checks checks) {
        Desk x = Desk.signedOn(checks);
        add(x, "b=1,a=r");
        x.gives("delete under two", Bytes.delete("c=1,b=1,a=r"), 32, "b=1,a=r");
        x.gives("delete two under one", Bytes.delete("c=1,b=2,a=r"), 32, "a=r");
        x.gives("delete far under one", Bytes.delete("d=1,c=1,b=2,a=r"), 32, "a=r");
        x.gives("delete under nothing", Bytes.delete("b=1,a=s"), 32, "");
        x.gives("delete what only begins so", Bytes.delete("a=r,b=7"), 32, "");
        x.gives("delete one part", Bytes.delete("a=s"), 32, "");
        x.gives("add far under two", Bytes.add("e=1,d=1,b=1,a=r", Bytes.attribute("e", "1")), 32, "b=1,a=r");
        x.gives("add under nothing", Bytes.add("e=1,d=1", Bytes.attribute("e", "1")), 32, "");
        x.gives("modify under two", Bytes.modify("e=1,b=1,a=r"), 32, "b=1,a=r");
        x.gives("search under two", Bytes.search("d=1,c=1,b=1,a=r", 2, 0, 0, Bytes.all()), 32, "b=1,a=r");
        x.gives("search under one", Bytes.search("b=2,a=r", 0, 0, 0, Bytes.all()), 32, "a=r");
        String deep = "d=12345678,c=12345678,b=12345678,a=12345678";
        String above = deep.substring(11);
        add(x, "a=12345678");
        add(x, "b=12345678,a=12345678");
        add(x, above);
        x.gives("the longest name", Bytes.delete(deep), 32, above);
    }

    private static void modifying(Checks checks) {
        Desk x = Desk.signedOn(checks);
        x.gives("more", Bytes.modify("a=r", Bytes.change(0, "d", "1", "2"), Bytes.change(0, "c", "1")), 0);
        checks.same("they come behind the others", x.shown(0), "1: a=r f=x d=1 d=2 c=1");
        x.gives("less", Bytes.modify("a=r", Bytes.change(1, "d", "1")), 0);
        checks.same("it goes", x.shown(0), "1: a=r f=x d=2 c=1");
        x.gives("instead", Bytes.modify("a=r", Bytes.change(2, "f", "y", "x")), 0);
        checks.same("the new ones come last", x.shown(0), "1: a=r d=2 c=1 f=y f=x");
        x.gives("less of all", Bytes.modify("a=r", Bytes.change(1, "f")), 0);
        checks.same("they go", x.shown(0), "1: a=r d=2 c=1");
        x.gives("instead of nothing", Bytes.modify("a=r", Bytes.change(2, "f", "x")), 0);
        x.gives("nothing instead", Bytes.modify("a=r", Bytes.change(2, "d")), 0);
        x.gives("nothing more", Bytes.modify("a=r", Bytes.change(0, "d")), 0);
        x.gives("nothing instead of nothing", Bytes.modify("a=r", Bytes.change(2, "d")), 0);
        x.gives("no changes", Bytes.modify("a=r"), 0);
        checks.same("what is left", x.shown(0), "1: a=r c=1 f=x");
        x.gives("its own part goes and comes", Bytes.modify("a=r", Bytes.change(1, "a", "r"), Bytes.change(0, "a", "r")), 0);
        checks.same("it is last now", x.shown(0), "1: c=1 f=x a=r");
        x.gives("too many on the way", Bytes.modify("a=r", Bytes.change(0, "d", "1", "2", "3", "4", "5"),
                Bytes.change(1, "d", "3", "4")), 0);
        checks.same("six in the end", x.shown(0), "1: c=1 f=x a=r d=1 d=2 d=5");
        x.gives("less twice", Bytes.modify("a=r", Bytes.change(1, "d", "1", "1")), 16);
        x.gives("instead of the same", Bytes.modify("a=r", Bytes.change(2, "d", "2", "1")), 0);
        checks.same("in the new order", x.shown(0), "1: c=1 f=x a=r d=2 d=1");
        x.gives("less of two", Bytes.modify("a=r", Bytes.change(1, "d"), Bytes.change(2, "c", "2")), 0);
        x.gives("adding knows nothing of it", Bytes.add("d=1", Bytes.attribute("d", "1"), Bytes.attribute("d", "2")), 0);
        checks.same("what was added", x.shown(1), "1: d=1 d=2");
    }

    private static void modifyingNothing(Checks checks) {
        Desk x = Desk.signedOn(checks);
        byte[] good = Bytes.change(0, "c", "1");
        x.gives("17", Bytes.modify("a=r", good, Bytes.change(0, "g", "?")), 17);
        x.gives("17 without values", Bytes.modify("a=r", good, Bytes.change(1, "")), 17);
        x.gives("17 for instead", Bytes.modify("a=r", good, Bytes.change(2, "ab")), 17);
        x.gives("21 for more", Bytes.modify("a=r", good, Bytes.change(0, "d", "")), 21);
        x.gives("21 for less", Bytes.modify("a=r", good, Bytes.change(1, "d", "A")), 21);
        x.gives("21 for instead", Bytes.modify("a=r", good, Bytes.change(2, "d", "1", "123456789")), 21);
        x.gives("20", Bytes.modify("a=r", good, Bytes.change(0, "f", "x")), 20);
        x.gives("20 at once", Bytes.modify("a=r", good, Bytes.change(0, "d", "1", "1")), 20);
        x.gives("20 of the change before", Bytes.modify("a=r", good, good), 20);
        x.gives("20 for instead", Bytes.modify("a=r", good, Bytes.change(2, "f", "x", "x")), 20);
        x.gives("16", Bytes.modify("a=r", good, Bytes.change(1, "f", "y")), 16);
        x.gives("16 of another type", Bytes.modify("a=r", good, Bytes.change(1, "e", "x")), 16);
        x.gives("16 without values", Bytes.modify("a=r", good, Bytes.change(1, "e")), 16);
        x.gives("16 before a later 17", Bytes.modify("a=r", Bytes.change(1, "e"), Bytes.change(0, "g")), 16);
        x.gives("20 before a later 16", Bytes.modify("a=r", Bytes.change(0, "a", "r"), Bytes.change(1, "e")), 20);
        x.gives("67", Bytes.modify("a=r", good, Bytes.change(1, "a", "r")), 67);
        x.gives("67 for all of the type", Bytes.modify("a=r", good, Bytes.change(1, "a")), 67);
        x.gives("67 for instead", Bytes.modify("a=r", good, Bytes.change(2, "a", "s")), 67);
        x.gives("67 before 53", Bytes.modify("a=r", Bytes.change(2, "a", "1", "2", "3", "4", "5", "6")), 67);
        x.gives("53", Bytes.modify("a=r", good, Bytes.change(0, "d", "1", "2", "3", "4")), 53);
        checks.same("nothing was changed", x.shown(0), "1: a=r f=x");
        x.gives("32", Bytes.modify("a=s", Bytes.change(0, "g")), 32);
        x.gives("six pairs", Bytes.modify("a=r", good, Bytes.change(0, "d", "1", "2", "3")), 0);
    }

    private static void firstCodes(Checks checks) {
        Desk x = new Desk(checks);
        x.gives("50 before 34 for add", Bytes.add("?"), 50);
        x.gives("50 before 34 for delete", Bytes.delete("?"), 50);
        x.gives("50 before 34 for modify", Bytes.modify("?"), 50);
        x.gives("50 for delete", Bytes.delete("a=r"), 50);
        x.gives("sign on", Bytes.sign(3, "a=r", "x"), 0);
        x.gives("34 for add", Bytes.add("?"), 34);
        x.gives("34 for add of nothing", Bytes.add(""), 34);
        x.gives("34 for delete", Bytes.delete("?"), 34);
        x.gives("34 for delete of nothing", Bytes.delete(""), 34);
        x.gives("34 for modify", Bytes.modify("?"), 34);
        x.gives("34 for modify of nothing", Bytes.modify(""), 34);
        x.gives("sign off", Bytes.sign(3, "", ""), 0);
        x.gives("50 again", Bytes.modify("a=r"), 50);
        checks.same("nothing happened", x.shown(0), "1: a=r f=x");
    }

    private static void entriesAndPairs(Checks checks) {
        Desk x = Desk.signedOn(checks);
        x.gives("add", Bytes.add("b=ab12,a=r", Bytes.attribute("b", "ab12", "zzzzzzzz")), 0);
        checks.same("entries", x.desk.entries(), 2);
        checks.same("entry 0", x.desk.entry(0), 1 + 8 * 2);
        checks.same("entry 1", x.desk.entry(1), 2 + 8 * 2);
        int[] outside = {-1, 2, 16, Integer.MIN_VALUE, Integer.MAX_VALUE};
        for (int e : outside) {
            checks.same("entry " + e, x.desk.entry(e), DirectoryDesk.BAD);
            checks.same("pairType " + e + " 0", x.desk.pairType(e, 0), -1);
            checks.same("pairValue " + e + " 0", x.desk.pairValue(e, 0), -1L);
            checks.same("pairType 1 " + e, x.desk.pairType(1, e), -1);
            checks.same("pairValue 1 " + e, x.desk.pairValue(1, e), -1L);
        }
        checks.same("pairType", x.desk.pairType(1, 1), (int) 'b');
        checks.same("pairValue", x.desk.pairValue(1, 0), 0x6162313200000000L);
        checks.same("pairValue of eight bytes", x.desk.pairValue(1, 1), 0x7a7a7a7a7a7a7a7aL);
        checks.same("pairValue of one byte", x.desk.pairValue(0, 1), 0x7800000000000000L);
    }

    private static void add(Desk x, String name) {
        x.gives("add " + name, Bytes.add(name, Bytes.attribute(name.substring(0, 1), name.split("[=,]")[1])), 0);
    }
}
