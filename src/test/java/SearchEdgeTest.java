/** The edges of searching: its codes, scopes and limits, the answer and its room. */
public final class SearchEdgeTest {
    private static final byte[] ALL = Bytes.all();
    private static final String EIGHT = "12345678";

    public static void main(String[] args) {
        Checks checks = new Checks("SearchEdgeTest");
        bases(checks);
        missingBases(checks);
        scopes(checks);
        scopesOfNothing(checks);
        inTheirOrder(checks);
        limits(checks);
        onlyTrueOnes(checks);
        moreWithoutRoom(checks);
        shapeOfEntries(checks);
        shapeOfTheLast(checks);
        numbersInAnswers(checks);
        typesInAnswers(checks);
        pairsInTheirOrder(checks);
        typesAlone(checks);
        lists(checks);
        whatComesLast(checks);
        emptyUnless32(checks);
        nearest(checks);
        roomInAnEntry(checks);
        roomInAnEntryByItsId(checks);
        roomInTheAnswer(checks);
        noFurtherOne(checks);
        longestAnswers(checks);
        checks.end();
    }

    private static void bases(Checks checks) {
        Sentence s = new Sentence(checks, "SEARCH: 34, the base is neither a name nor that of nothing");
        s.outside("nothing", Desk.codeForNobody(checks, Bytes.search("", 2, 0, 0, ALL)), 0);
        s.outside("a name", Desk.codeForNobody(checks, Bytes.search("a=r", 2, 0, 0, ALL)), 0);
        s.outside("a name of four parts", Desk.codeForNobody(checks, Bytes.search("a=1,b=2,c=3,d=4", 2, 0, 0, ALL)), 32);
        for (String base : new String[] {"a", ",", "a=", "a=r,", "a=1,b=2,c=3,d=4,e=5", "g=1", "a=123456789", "\0"}) {
            s.inside(base, Desk.codeForNobody(checks, Bytes.search(base, 2, 0, 0, ALL)), 34);
        }
        s.end();
    }

    private static void missingBases(Checks checks) {
        Sentence s = new Sentence(checks, "32, it is a name and there is no such entry.");
        for (int scope = 0; scope <= 2; scope++) {
            s.outside("an entry in scope " + scope, Desk.codeForNobody(checks, Bytes.search("a=r", scope, 0, 0, ALL)), 0);
            s.outside("nothing in scope " + scope, Desk.codeForNobody(checks, Bytes.search("", scope, 0, 0, ALL)), 0);
            s.inside("another value in scope " + scope, Desk.codeForNobody(checks, Bytes.search("a=s", scope, 0, 0, ALL)), 32);
            s.inside("one under it in scope " + scope, Desk.codeForNobody(checks, Bytes.search("b=1,a=r", scope, 0, 0, ALL)), 32);
        }
        Desk x = Desk.signedOn(checks);
        x.gives("the last one goes", Bytes.delete("a=r"), 0);
        s.inside("an entry that is gone", x.code(Bytes.search("a=r", 2, 0, 0, ALL)), 32);
        s.outside("nothing, when there is no entry", x.code(Bytes.search("", 2, 0, 0, ALL)), 0);
        s.end();
    }

    private static Desk tree(Checks checks) {
        Desk x = Desk.signedOn(checks);
        x.add("b=1,a=r");
        x.add("c=1,b=1,a=r");
        x.add("a=s");
        x.add("d=1,c=1,b=1,a=r");
        x.add("b=1,a=s");
        x.add("b=2,a=r");
        return x;
    }

    private static void scopes(Checks checks) {
        Sentence s = new Sentence(checks, "0: the base itself; 1: those whose parent it is; 2: the base and all under it:"
                + " their parents, and so on");
        Desk x = tree(checks);
        s.inside("0 of a=r", x.names("a=r", 0, 0, ALL), "a=r");
        s.inside("1 of a=r", x.names("a=r", 1, 0, ALL), "b=1,a=r b=2,a=r");
        s.inside("2 of a=r", x.names("a=r", 2, 0, ALL), "a=r b=1,a=r c=1,b=1,a=r d=1,c=1,b=1,a=r b=2,a=r");
        s.inside("0 of b=1,a=r", x.names("b=1,a=r", 0, 0, ALL), "b=1,a=r");
        s.inside("1 of b=1,a=r", x.names("b=1,a=r", 1, 0, ALL), "c=1,b=1,a=r");
        s.inside("2 of b=1,a=r", x.names("b=1,a=r", 2, 0, ALL), "b=1,a=r c=1,b=1,a=r d=1,c=1,b=1,a=r");
        s.inside("0 of four parts", x.names("d=1,c=1,b=1,a=r", 0, 0, ALL), "d=1,c=1,b=1,a=r");
        s.outside("1 of four parts", x.names("d=1,c=1,b=1,a=r", 1, 0, ALL), "");
        s.inside("2 of four parts", x.names("d=1,c=1,b=1,a=r", 2, 0, ALL), "d=1,c=1,b=1,a=r");
        s.inside("2 of a=s", x.names("a=s", 2, 0, ALL), "a=s b=1,a=s");
        s.outside("1 of one without any", x.names("b=2,a=r", 1, 0, ALL), "");
        s.end();
    }

    private static void scopesOfNothing(Checks checks) {
        Sentence s = new Sentence(checks, "the name of nothing is no entry");
        Desk x = tree(checks);
        s.outside("0 of nothing", x.names("", 0, 0, ALL), "");
        s.outside("0 of nothing, its code", x.code(Bytes.search("", 0, 0, 0, ALL)), 0);
        s.inside("1 of nothing", x.names("", 1, 0, ALL), "a=r a=s");
        s.inside("2 of nothing", x.names("", 2, 0, ALL), "a=r b=1,a=r c=1,b=1,a=r a=s d=1,c=1,b=1,a=r b=1,a=s b=2,a=r");
        s.end();
    }

    private static void inTheirOrder(Checks checks) {
        Sentence s = new Sentence(checks, "are looked at in their order.");
        Desk x = Desk.signedOn(checks);
        x.add("b=2");
        x.add("b=1");
        s.inside("the first one", x.names("", 2, 1, Bytes.there("b")), "b=2");
        x.gives("it goes", Bytes.delete("b=2"), 0);
        x.add("b=2");
        s.outside("the first one now", x.names("", 2, 1, Bytes.there("b")), "b=1");
        s.inside("both", x.names("", 2, 0, Bytes.there("b")), "b=1 b=2");
        s.end();
    }

    private static void limits(Checks checks) {
        Sentence s = new Sentence(checks, "the first LIMIT are answered (all, if it is 0); 4 if there are more");
        Desk x = Desk.signedOn(checks);
        x.add("b=1");
        x.add("b=2");
        x.add("b=3");
        byte[] b = Bytes.there("b");
        String[] due = {"b=1 b=2 b=3", "b=1", "b=1 b=2", "b=1 b=2 b=3", "b=1 b=2 b=3"};
        for (int limit = 0; limit <= 4; limit++) {
            boolean isMore = limit == 1 || limit == 2;
            s.side(!isMore, "the limit " + limit, x.names("", 2, limit, b), due[limit]);
            s.side(!isMore, "the limit " + limit + ", its code", x.code(Bytes.search("", 2, limit, 0, b)), isMore ? 4 : 0);
        }
        for (int limit : new int[] {127, 128, 255, 256, 32767}) {
            s.inside("the limit " + limit, x.names("", 2, limit, b), "b=1 b=2 b=3");
            s.inside("the limit " + limit + ", its code", x.code(Bytes.search("", 2, limit, 0, b)), 0);
        }
        s.inside("none and the limit 1", x.code(Bytes.search("", 2, 1, 0, Bytes.there("c"))), 0);
        s.inside("one and the limit 1", x.code(Bytes.search("", 2, 1, 0, Bytes.equal("b", "3"))), 0);
        s.inside("one in the scope and the limit 1", x.code(Bytes.search("a=r", 0, 1, 0, ALL)), 0);
        s.end();
    }

    private static void onlyTrueOnes(Checks checks) {
        Sentence s = new Sentence(checks, "Of those for which the filter is true");
        Desk x = Desk.signedOn(checks);
        x.add("b=1");
        s.inside("true", x.names(Bytes.all()), "a=r b=1");
        s.outside("false", x.names(Bytes.any()), "");
        s.outside("undefined", x.names(Bytes.there("?")), "");
        s.outside("not undefined", x.names(Bytes.not(Bytes.there("?"))), "");
        s.inside("true for the last", x.names(Bytes.there("b")), "b=1");
        s.outside("those that are not true count for no limit", x.code(Bytes.search("", 2, 1, 0, Bytes.there("b"))), 0);
        s.end();
    }

    /** Of three entries the one in the middle is too long to find room. */
    private static void moreWithoutRoom(Checks checks) {
        Sentence s = new Sentence(checks, "(also when one of them found no room); 11 if one of them found no room.");
        Desk x = Desk.signedOn(checks);
        x.add("c=1");
        x.add("c=12345678");
        tooLong(x, "b=12345678,c=12345678");
        x.add("c=2");
        byte[] some = Bytes.any(Bytes.equal("c", "1"), Bytes.there("b"), Bytes.equal("c", "2"));
        byte[] first = Bytes.found(7, "c=1", Bytes.attribute("c", "1"));
        int[] codes = {11, 4, 4, 11, 11};
        for (int limit = 0; limit <= 4; limit++) {
            int code = x.code(Bytes.search("", 2, limit, 0, some));
            s.side(code == 11, "the limit " + limit, code, codes[limit]);
            s.side(code == 11, "the limit " + limit + ", the answer", Bytes.shown(x.answer()),
                    Bytes.shown(Bytes.join(first, Bytes.last(7, 101, codes[limit], ""))));
        }
        s.outside("all of them with room", x.code(Bytes.search("", 2, 3, 1, some)), 0);
        s.outside("more than the limit with room", x.code(Bytes.search("", 2, 2, 1, some)), 4);
        s.end();
    }

    /** Adds an entry that would be 135 bytes or more inside its outermost element. */
    private static void tooLong(Desk x, String name) {
        String type = name.substring(0, 1);
        byte[][] six = new byte[6][];
        for (int i = 0; i < 6; i++) {
            String letter = String.valueOf((char) ('a' + i));
            six[i] = Bytes.attribute(letter, letter.equals(type) ? name.substring(2, 10) : EIGHT);
        }
        x.gives("a long entry", Bytes.add(name, six), 0);
    }

    /** Byte for byte, since the other tests make what they expect with the same helpers. */
    private static void shapeOfEntries(Checks checks) {
        Sentence s = new Sentence(checks, "For each entry that is answered: 48 { NUMBER id; 100 { TEXT name; 48 { 48 { TEXT"
                + " type; 49 { TEXT value, each } }");
        String last = "48 12 2 1 7 101 7 10 1 0 4 0 4 0";
        Desk x = Desk.signedOn(checks);
        x.gives("two values", Bytes.modify("a=r", Bytes.change(0, "f", "09")), 0);
        x.code(Bytes.search("", 2, 0, 0, ALL));
        s.inside("one entry", Bytes.shown(x.answer()), "48 36 2 1 7 100 31 4 3 97 61 114 48 24 48 8 4 1 97 49 3 4 1 114"
                + " 48 12 4 1 102 49 7 4 1 120 4 2 48 57 " + last);
        x.code(Bytes.search("", 2, 0, 0, ALL, "c"));
        s.inside("one entry without types", Bytes.shown(x.answer()), "48 12 2 1 7 100 7 4 3 97 61 114 48 0 " + last);
        x.code(Bytes.search("", 2, 0, 1, ALL, "f"));
        s.inside("one entry, types alone", Bytes.shown(x.answer()),
                "48 19 2 1 7 100 14 4 3 97 61 114 48 7 48 5 4 1 102 49 0 " + last);
        x.add("b=1,a=r");
        x.code(Bytes.search("", 2, 0, 0, ALL, "b"));
        s.inside("two entries", Bytes.shown(x.answer()), "48 12 2 1 7 100 7 4 3 97 61 114 48 0"
                + " 48 26 2 1 7 100 21 4 7 98 61 49 44 97 61 114 48 10 48 8 4 1 98 49 3 4 1 49 " + last);
        x.code(Bytes.search("", 0, 0, 0, ALL));
        s.outside("no entry", Bytes.shown(x.answer()), last);
        s.end();
    }

    private static void shapeOfTheLast(Checks checks) {
        Sentence s = new Sentence(checks, "Last: 48 { NUMBER id; T { CHOICE code; TEXT; TEXT with nothing } }");
        Desk x = Desk.signedOn(checks);
        s.inside("0", Bytes.shown(x.answer()), "48 12 2 1 7 97 7 10 1 0 4 0 4 0");
        x.code(Bytes.delete("b=1,a=r"));
        s.outside("32", Bytes.shown(x.answer()), "48 15 2 1 7 107 10 10 1 32 4 3 97 61 114 4 0");
        x.sendRaw(Bytes.message(128, Bytes.delete("b=1,a=r")));
        s.outside("32 with an id of two bytes", Bytes.shown(x.answer()), "48 16 2 2 0 128 107 10 10 1 32 4 3 97 61 114 4 0");
        x.code(Bytes.add("a=r"));
        s.inside("68", Bytes.shown(x.answer()), "48 12 2 1 7 105 7 10 1 68 4 0 4 0");
        s.end();
    }

    private static void numbersInAnswers(Checks checks) {
        Sentence s = new Sentence(checks,
                "lengths in it are one byte, numbers one byte if they are less than 128, otherwise two.");
        for (int id : new int[] {0, 1, 126, 127, 128, 129, 255, 256, 257, 383, 384, 32766, 32767}) {
            byte[] number = id < 128 ? Bytes.of(2, 1, id) : Bytes.of(2, 2, id >> 8, id & 255);
            byte[] search = Bytes.search("", 2, 0, 0, ALL, "a");
            byte[] found = Bytes.element(48, number, Bytes.of(100, 17, 4, 3, 'a', '=', 'r', 48, 10, 48, 8, 4, 1, 'a', 49,
                    3, 4, 1, 'r'));
            byte[] last = Bytes.element(48, number, Bytes.of(101, 7, 10, 1, 0, 4, 0, 4, 0));
            String due = Bytes.shown(Bytes.join(found, last));
            Desk x = new Desk(checks);
            x.sendRaw(Bytes.element(48, number, search));
            s.side(id < 128, "the id " + id, Bytes.shown(x.answer()), due);
            x.sendRaw(Bytes.element(48, Bytes.longElement(2, Bytes.of(id >> 8, id & 255)), search));
            s.side(id < 128, "the id " + id + " in two bytes", Bytes.shown(x.answer()), due);
        }
        s.end();
    }

    private static void typesInAnswers(Checks checks) {
        Sentence s = new Sentence(checks, "for each type a .. f of which it has pairs");
        String[] types = {"f", "e", "d", "c", "b", "a"};
        for (int count = 1; count <= 6; count++) {
            Desk x = Desk.signedOn(checks);
            byte[][] given = new byte[count][];
            byte[][] answered = new byte[count][];
            for (int i = 0; i < count; i++) {
                given[i] = Bytes.attribute(types[i], "1");
                answered[count - 1 - i] = given[i];
            }
            x.gives("add", Bytes.add("f=1", given), 0);
            x.code(Bytes.search("f=1", 0, 0, 0, ALL));
            s.inside(count + " types", Bytes.shown(x.answer()),
                    Bytes.shown(Bytes.join(Bytes.found(7, "f=1", answered), Bytes.last(7, 101, 0, ""))));
        }
        Desk x = Desk.signedOn(checks);
        x.gives("more", Bytes.modify("a=r", Bytes.change(0, "c", "1")), 0);
        x.gives("less", Bytes.modify("a=r", Bytes.change(1, "c", "1")), 0);
        x.code(Bytes.search("", 2, 0, 0, ALL));
        s.outside("a type of which it has none any more", Bytes.shown(x.answer()), Bytes.shown(Bytes.join(
                Bytes.found(7, "a=r", Bytes.attribute("a", "r"), Bytes.attribute("f", "x")), Bytes.last(7, 101, 0, ""))));
        s.end();
    }

    private static void pairsInTheirOrder(Checks checks) {
        Sentence s = new Sentence(checks, "its pairs in their order");
        Desk x = Desk.signedOn(checks);
        x.gives("add", Bytes.add("b=1", Bytes.attribute("d", "z"), Bytes.attribute("b", "2", "1"),
                Bytes.attribute("d", "a", EIGHT, "m")), 0);
        x.code(Bytes.search("b=1", 0, 0, 0, ALL));
        s.inside("they are", Bytes.shown(x.answer()), Bytes.shown(Bytes.join(Bytes.found(7, "b=1",
                Bytes.attribute("b", "2", "1"), Bytes.attribute("d", "z", "a", EIGHT, "m")), Bytes.last(7, 101, 0, ""))));
        x.gives("instead", Bytes.modify("b=1", Bytes.change(1, "d", "a"), Bytes.change(0, "d", "a")), 0);
        x.code(Bytes.search("b=1", 0, 0, 0, ALL));
        s.outside("not any more as they were", Bytes.shown(x.answer()), Bytes.shown(Bytes.join(Bytes.found(7, "b=1",
                Bytes.attribute("b", "2", "1"), Bytes.attribute("d", "z", EIGHT, "m", "a")), Bytes.last(7, 101, 0, ""))));
        s.end();
    }

    private static void typesAlone(Checks checks) {
        Sentence s = new Sentence(checks, "with a FLAG that is not no, the 49 { } is empty");
        byte[] values = Bytes.join(Bytes.found(7, "a=r", Bytes.attribute("a", "r"), Bytes.attribute("f", "x")),
                Bytes.last(7, 101, 0, ""));
        byte[] types = Bytes.join(Bytes.found(7, "a=r", Bytes.attribute("a"), Bytes.attribute("f")),
                Bytes.last(7, 101, 0, ""));
        for (int flag : new int[] {0, 1, 2, 127, 128, 255}) {
            Desk x = new Desk(checks);
            x.code(Bytes.search("", 2, 0, flag, ALL));
            s.side(flag != 0, "the flag " + flag, Bytes.shown(x.answer()), Bytes.shown(flag == 0 ? values : types));
        }
        s.end();
    }

    private static void lists(Checks checks) {
        Sentence s = new Sentence(checks, "if the list of texts is not empty, only the types in it are there.");
        byte[] a = Bytes.attribute("a", "r");
        byte[] f = Bytes.attribute("f", "x");
        list(s, checks, false, Bytes.join(a, f));
        list(s, checks, true, a, "a");
        list(s, checks, true, f, "f");
        list(s, checks, true, Bytes.join(a, f), "f", "a");
        list(s, checks, true, Bytes.join(a, f), "a", "f", "a", "f");
        list(s, checks, true, Bytes.of(), "e");
        list(s, checks, true, Bytes.of(), "");
        list(s, checks, true, Bytes.of(), "g");
        list(s, checks, true, Bytes.of(), "aa");
        list(s, checks, true, a, "", "g", "aa", "a");
        list(s, checks, true, f, "b", "c", "d", "e", "f");
        s.end();
    }

    private static void list(Sentence s, Checks checks, boolean isInside, byte[] attributes, String... texts) {
        Desk x = new Desk(checks);
        x.code(Bytes.search("", 2, 0, 0, ALL, texts));
        s.side(isInside, "the list " + String.join(" ", texts), Bytes.shown(x.answer()),
                Bytes.shown(Bytes.join(Bytes.found(7, "a=r", attributes), Bytes.last(7, 101, 0, ""))));
    }

    private static void whatComesLast(Checks checks) {
        Sentence s = new Sentence(checks, "with T 97 for SIGN, 101 SEARCH, 103 MODIFY, 105 ADD, 107 DELETE");
        byte[][] good = {Bytes.sign(3, "a=r", "x"), Bytes.search("", 0, 0, 0, ALL), Bytes.modify("a=r"),
            Bytes.add("b=1", Bytes.attribute("b", "1")), Bytes.delete("a=r")};
        byte[][] wrong = {Bytes.sign(3, "a=r", ""), Bytes.search("?", 0, 0, 0, ALL), Bytes.modify("?"), Bytes.add("?"),
            Bytes.delete("?")};
        int[] tags = {97, 101, 103, 105, 107};
        for (int i = 0; i < 5; i++) {
            Desk x = Desk.signedOn(checks);
            x.code(good[i]);
            s.inside("0 for " + tags[i], Bytes.shown(x.answer()), "48 12 2 1 7 " + tags[i] + " 7 10 1 0 4 0 4 0");
            Desk y = Desk.signedOn(checks);
            int code = i == 0 ? 53 : 34;
            y.code(wrong[i]);
            s.outside(code + " for " + tags[i], Bytes.shown(y.answer()), "48 12 2 1 7 " + tags[i] + " 7 10 1 " + code + " 4 0 4 0");
        }
        s.end();
    }

    private static void emptyUnless32(Checks checks) {
        Sentence s = new Sentence(checks, "the first TEXT is empty");
        String[] names = {"b=1,a=s", "b=1,a=r"};
        Desk x = Desk.signedOn(checks);
        s.inside("34", lastText(x, Bytes.delete("b=1,a=r,")), "34 ");
        s.inside("34 for SEARCH", lastText(x, Bytes.search("b=1,a=r,", 2, 0, 0, ALL)), "34 ");
        s.inside("17", lastText(x, Bytes.add(names[1], Bytes.attribute("?"))), "17 ");
        s.inside("64", lastText(x, Bytes.add(names[1])), "64 ");
        s.inside("68", lastText(x, Bytes.add("a=r")), "68 ");
        s.inside("0", lastText(x, Bytes.add(names[1], Bytes.attribute("b", "1"))), "0 ");
        s.inside("66", lastText(x, Bytes.delete("a=r")), "66 ");
        s.inside("16", lastText(x, Bytes.modify(names[1], Bytes.change(1, "f"))), "16 ");
        s.inside("49", lastText(x, Bytes.sign(3, "c=1,a=r", "x")), "49 ");
        s.inside("50", lastText(x, Bytes.delete("c=1,a=r")), "50 ");
        s.inside("4", lastText(x, Bytes.search("", 2, 1, 0, ALL)), "4 ");
        s.inside("2", lastText(x, Bytes.search("c=1,a=r", 3, 0, 0, ALL)), "2 ");
        s.outside("32", lastText(x, Bytes.search("c=1,a=r", 2, 0, 0, ALL)), "32 a=r");
        s.inside("32 under no entry", lastText(x, Bytes.search(names[0], 2, 0, 0, ALL)), "32 ");
        s.end();
    }

    /** The code and the text behind it, of what comes last; the code's place is told by its three bytes 10 1 code. */
    private static String lastText(Desk x, byte[] operation) {
        int code = x.code(operation);
        byte[] answer = x.answer();
        for (int length = 0; length <= 43; length++) {
            int at = answer.length - 2 - length - 2;
            if (at >= 3 && answer[at] == 4 && answer[at + 1] == length && answer[at - 3] == 10 && answer[at - 1] == code) {
                return code + " " + new String(answer, at + 2, length, java.nio.charset.StandardCharsets.ISO_8859_1);
            }
        }
        return code + " and no text";
    }

    private static void nearest(Checks checks) {
        Sentence s = new Sentence(checks, "unless the code is 32: then it is the longest end of the name (its parent, or"
                + " the parent's parent, and so on) that is the name of an entry, or empty.");
        String[] names = {"d=4,c=3,b=2,a=r", "d=4,c=3,b=2,a=s", "d=4,c=3,b=2", "b=2,a=r", "b=2,a=s", "a=s", "a=r,b=2"};
        String[] first = {"a=r", "", "", "a=r", "", "", ""};
        String[] then = {"b=2,a=r", "", "", null, "", "", ""};
        String[] last = {"c=3,b=2,a=r", "", "b=2", null, "", "", "b=2"};
        nearest(s, Desk.signedOn(checks), names, first);
        Desk two = Desk.signedOn(checks);
        two.add("b=2,a=r");
        nearest(s, two, names, then);
        Desk four = Desk.signedOn(checks);
        four.add("b=2,a=r");
        four.add("c=3,b=2,a=r");
        four.add("b=2");
        nearest(s, four, names, last);
        Desk y = Desk.signedOn(checks);
        y.add("a=12345678");
        y.add("b=12345678,a=12345678");
        y.add("c=12345678,b=12345678,a=12345678");
        s.inside("the longest one", lastText(y, Bytes.delete("d=12345678,c=12345678,b=12345678,a=12345678")),
                "32 c=12345678,b=12345678,a=12345678");
        s.end();
    }

    private static void nearest(Sentence s, Desk x, String[] names, String[] due) {
        for (int i = 0; i < names.length; i++) {
            if (due[i] != null) {
                String told = "32 " + due[i];
                s.side(!due[i].isEmpty(), "DELETE " + names[i], lastText(x, Bytes.delete(names[i])), told);
                s.side(!due[i].isEmpty(), "MODIFY " + names[i], lastText(x, Bytes.modify(names[i])), told);
                s.side(!due[i].isEmpty(), "SEARCH " + names[i], lastText(x, Bytes.search(names[i], 0, 0, 0, ALL)), told);
            }
        }
        if (due[0].equals("a=r")) {
            s.inside("ADD under none", lastText(x, Bytes.add(names[0])), "32 a=r");
            s.outside("ADD under nothing", lastText(x, Bytes.add(names[4])), "32 ");
        }
    }

    private static void roomInAnEntry(Checks checks) {
        Sentence s = new Sentence(checks,
                "an entry finds no room if the contents of its outermost element would be more than 127 bytes");
        for (int contents = 125; contents <= 130; contents++) {
            Desk x = Desk.signedOn(checks);
            byte[] found = entryOf(x, 7, contents);
            boolean hasRoom = contents <= 127;
            int code = x.code(Bytes.search("b=1234567,c=12345678", 0, 0, 0, ALL));
            s.side(!hasRoom, contents + " bytes", code, hasRoom ? 0 : 11);
            s.side(!hasRoom, contents + " bytes, the answer", Bytes.shown(x.answer()),
                    Bytes.shown(Bytes.join(hasRoom ? found : Bytes.of(), Bytes.last(7, 101, hasRoom ? 0 : 11, ""))));
            s.outside(contents + " bytes, its types alone", x.code(Bytes.search("b=1234567,c=12345678", 0, 0, 1, ALL)), 0);
        }
        s.end();
    }

    /** Adds b=1234567,c=12345678 so that its answer with this id would have so many bytes inside: that answer. */
    private static byte[] entryOf(Desk x, int id, int contents) {
        String name = "b=1234567,c=12345678";
        // Six types with a value each are 54 bytes and those of the values; 7 + 8 * 4 of these are given.
        int rest = contents - (id < 128 ? 3 : 4) - 6 - name.length() - 54 - 7 - 32;
        byte[][] six = {Bytes.attribute("a", EIGHT), Bytes.attribute("b", "1234567"), Bytes.attribute("c", EIGHT),
            Bytes.attribute("d", EIGHT), Bytes.attribute("e", EIGHT.substring(0, rest)), Bytes.attribute("f", EIGHT)};
        x.add("c=12345678");
        x.gives("an entry of " + contents, Bytes.add(name, six), 0);
        return Bytes.element(48, Bytes.number(id), Bytes.element(100, Bytes.text(name), Bytes.element(48, six)));
    }

    private static void roomInAnEntryByItsId(Checks checks) {
        Sentence s = new Sentence(checks, "the contents of its outermost element would be more than 127 bytes");
        for (int id : new int[] {0, 127, 128, 32767}) {
            for (int contents = 127; contents <= 128; contents++) {
                Desk x = Desk.signedOn(checks);
                entryOf(x, id, contents);
                int code = x.sendRaw(Bytes.message(id, Bytes.search("b=1234567,c=12345678", 0, 0, 0, ALL)));
                s.side(contents > 127, contents + " bytes with the id " + id, code, contents > 127 ? 11 : 0);
            }
        }
        s.end();
    }

    /** Adds three entries whose answers are so many bytes altogether: these. */
    private static byte[][] threeOf(Desk x, int id, int bytes) {
        byte[][] found = new byte[3][];
        int[] lengths = {8, 8, 8};
        int less = 267 + 24 + 3 * (id < 128 ? 0 : 1) - bytes;
        for (int e = 0; e < 3; e++) {
            int taken = Math.min(less, 7);
            lengths[e] -= taken;
            less -= taken;
            String name = "a=v" + e;
            byte[][] attributes = {Bytes.attribute("a", "v" + e), Bytes.attribute("c", EIGHT, "12345677"),
                Bytes.attribute("d", EIGHT, "12345677"), Bytes.attribute("e", EIGHT.substring(0, lengths[e]))};
            x.gives("add " + name, Bytes.add(name, attributes), 0);
            found[e] = Bytes.found(id, name, attributes);
        }
        return found;
    }

    private static void roomInTheAnswer(Checks checks) {
        Sentence s = new Sentence(checks, "or if it would leave less than 16 bytes for what comes last");
        for (int id : new int[] {7, 127, 128, 32767}) {
            for (int bytes = 282; bytes <= 287; bytes++) {
                Desk x = Desk.signedOn(checks);
                byte[][] found = threeOf(x, id, bytes);
                checks.same("the bytes of the entries", Bytes.join(found).length, bytes);
                boolean hasRoom = 300 - bytes >= 16;
                x.sendRaw(Bytes.message(id, Bytes.search("", 2, 0, 0, Bytes.there("c"))));
                byte[] two = Bytes.join(found[0], found[1]);
                s.side(!hasRoom, bytes + " bytes with the id " + id, Bytes.shown(x.answer()),
                        Bytes.shown(hasRoom ? Bytes.join(two, found[2], Bytes.last(id, 101, 0, ""))
                                : Bytes.join(two, Bytes.last(id, 101, 11, ""))));
            }
        }
        s.end();
    }

    private static void noFurtherOne(Checks checks) {
        Sentence s = new Sentence(checks, "then no further one is answered.");
        for (int bytes = 284; bytes <= 285; bytes++) {
            Desk x = Desk.signedOn(checks);
            x.gives("the first one goes", Bytes.delete("a=r"), 0);
            byte[][] found = threeOf(x, 7, bytes);
            x.add("c=1");
            int code = x.code(Bytes.search("", 2, 0, 0, ALL));
            byte[] two = Bytes.join(found[0], found[1]);
            s.side(bytes > 284, bytes + " bytes, then a short entry", Bytes.shown(x.answer()), Bytes.shown(Bytes.join(two,
                    bytes > 284 ? Bytes.of() : found[2], Bytes.last(7, 101, 11, ""))));
            s.side(bytes > 284, bytes + " bytes, the code", code, 11);
        }
        Desk x = Desk.signedOn(checks);
        x.gives("the first one goes", Bytes.delete("a=r"), 0);
        x.add("c=12345678");
        x.gives("a child", Bytes.add("b=12345678,c=12345678", Bytes.attribute("b", EIGHT)), 0);
        tooLong(x, "d=12345678,c=12345678");
        x.add("e=1");
        x.code(Bytes.search("c=12345678", 1, 0, 0, ALL));
        byte[] child = Bytes.found(7, "b=12345678,c=12345678", Bytes.attribute("b", EIGHT));
        s.inside("a long one, last", Bytes.shown(x.answer()), Bytes.shown(Bytes.join(child, Bytes.last(7, 101, 11, ""))));
        x.code(Bytes.search("", 2, 0, 0, Bytes.any(Bytes.there("d"), Bytes.there("e"))));
        s.inside("a long one, first", Bytes.shown(x.answer()), Bytes.shown(Bytes.last(7, 101, 11, "")));
        x.code(Bytes.search("", 2, 0, 0, Bytes.equal("e", "1")));
        s.outside("the short one alone", Bytes.shown(x.answer()),
                Bytes.shown(Bytes.join(Bytes.found(7, "e=1", Bytes.attribute("e", "1")), Bytes.last(7, 101, 0, ""))));
        s.end();
    }

    private static void longestAnswers(Checks checks) {
        Sentence s = new Sentence(checks, "An answer has at most 300 bytes");
        for (int id : new int[] {127, 128}) {
            int last = id < 128 ? 14 : 15;
            Desk x = Desk.signedOn(checks);
            threeOf(x, id, 284);
            x.sendRaw(Bytes.message(id, Bytes.search("", 2, 0, 0, Bytes.there("c"))));
            s.inside("the longest with the id " + id, x.desk.answered(), 284 + last);
            s.inside("its last byte", x.desk.answer(284 + last - 1), 0L);
            s.inside("behind it", x.desk.answer(284 + last), -1L);
            Desk y = Desk.signedOn(checks);
            byte[][] found = threeOf(y, id, 285);
            y.sendRaw(Bytes.message(id, Bytes.search("", 2, 0, 0, Bytes.there("c"))));
            s.outside("one byte more with the id " + id, y.desk.answered(), 285 - found[2].length + last);
        }
        Desk many = Desk.signedOn(checks);
        for (int i = 2; i <= 16; i++) {
            many.add("b=" + i);
        }
        many.code(Bytes.search("", 2, 0, 0, ALL));
        // a=r is 34 bytes, b=2 .. b=9 are 24 each, and b=10 and b=11 are 26: with the next one they would be 304.
        s.outside("sixteen entries", many.desk.answered(), 34 + 8 * 24 + 2 * 26 + 14);
        s.end();
    }
}
