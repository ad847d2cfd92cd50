/** Promises 4, 5 and 6: searching, filters, and the answer. */
public final class SearchTest {
    public static void main(String[] args) {
        Checks checks = new Checks("SearchTest");
        scopes(checks);
        limits(checks);
        codes(checks);
        simpleFilters(checks);
        orderFilters(checks);
        undefinedFilters(checks);
        joinedFilters(checks);
        malformedFilters(checks);
        deepFilters(checks);
        manyFilters(checks);
        answers(checks);
        roomInAnEntry(checks);
        roomInTheAnswer(checks);
        readingTheAnswer(checks);
        checks.end();
    }

    private static void scopes(Checks checks) {
        Desk x = Desk.signedOn(checks);
        add(x, "b=1,a=r", "b=1");
        add(x, "b=1", "b=1");
        add(x, "c=1,b=1,a=r", "c=1");
        add(x, "b=2,a=r", "b=2");
        add(x, "d=1,c=1,b=1,a=r", "d=1");
        add(x, "a=r,b=1", "a=r");
        byte[] all = Bytes.all();
        checks.same("base a=r", x.names("a=r", 0, 0, all), "a=r");
        checks.same("under a=r", x.names("a=r", 1, 0, all), "b=1,a=r b=2,a=r");
        checks.same("all of a=r", x.names("a=r", 2, 0, all),
                "a=r b=1,a=r c=1,b=1,a=r b=2,a=r d=1,c=1,b=1,a=r");
        checks.same("base nothing", x.names("", 0, 0, all), "");
        checks.same("under nothing", x.names("", 1, 0, all), "a=r b=1");
        checks.same("all of nothing", x.names("", 2, 0, all),
                "a=r b=1,a=r b=1 c=1,b=1,a=r b=2,a=r d=1,c=1,b=1,a=r a=r,b=1");
        checks.same("base b=1,a=r", x.names("b=1,a=r", 0, 0, all), "b=1,a=r");
        checks.same("under b=1,a=r", x.names("b=1,a=r", 1, 0, all), "c=1,b=1,a=r");
        checks.same("all of b=1,a=r", x.names("b=1,a=r", 2, 0, all), "b=1,a=r c=1,b=1,a=r d=1,c=1,b=1,a=r");
        checks.same("all of b=1", x.names("b=1", 2, 0, all), "b=1 a=r,b=1");
        checks.same("under the last", x.names("d=1,c=1,b=1,a=r", 1, 0, all), "");
        checks.same("the filter in the scope", x.names("a=r", 2, 0, Bytes.there("b")), "b=1,a=r b=2,a=r");
    }

    private static void limits(Checks checks) {
        Desk x = Desk.signedOn(checks);
        add(x, "b=1", "b=1");
        add(x, "b=2", "b=2");
        byte[] b = Bytes.there("b");
        checks.same("limit 0", x.names("", 2, 0, b), "b=1 b=2");
        checks.same("limit 1", x.names("", 2, 1, b), "b=1");
        checks.same("limit 2", x.names("", 2, 2, b), "b=1 b=2");
        checks.same("limit 300", x.names("", 2, 300, b), "b=1 b=2");
        x.gives("4", Bytes.search("", 2, 1, 0, b), 4);
        x.gives("4 with a limit of 2", Bytes.search("", 2, 2, 0, Bytes.all()), 4);
        x.gives("just as many", Bytes.search("", 2, 2, 0, b), 0);
        x.gives("all", Bytes.search("", 2, 0, 0, b), 0);
    }

    private static void codes(Checks checks) {
        Desk x = new Desk(checks);
        byte[] all = Bytes.all();
        x.gives("34", Bytes.search("?", 2, 0, 0, all), 34);
        x.gives("34 with a comma", Bytes.search("a=r,", 2, 0, 0, all), 34);
        x.gives("32", Bytes.search("a=s", 2, 0, 0, all), 32);
        x.gives("32 with an end", Bytes.search("b=1,a=r", 2, 0, 0, all), 32, "a=r");
        x.gives("nobody needs to sign on", Bytes.search("a=r", 2, 0, 0, all), 0);
        checks.same("nobody is signed on", x.desk.signed(), false);
    }

    /** Three entries: r with a r, f x; 1 with d 10, d 30; 2 with d 20, e 5 and f abc. */
    private static Desk three(Checks checks) {
        Desk x = Desk.signedOn(checks);
        x.gives("add 1", Bytes.add("b=1", Bytes.attribute("b", "1"), Bytes.attribute("d", "10", "30")), 0);
        x.gives("add 2", Bytes.add("b=2", Bytes.attribute("d", "20"), Bytes.attribute("b", "2"),
                Bytes.attribute("e", "5"), Bytes.attribute("f", "abc")), 0);
        return x;
    }

    private static void simpleFilters(Checks checks) {
        Desk x = three(checks);
        checks.same("there b", x.names(Bytes.there("b")), "b=1 b=2");
        checks.same("there f", x.names(Bytes.there("f")), "a=r b=2");
        checks.same("there c", x.names(Bytes.there("c")), "");
        checks.same("equal b 2", x.names(Bytes.equal("b", "2")), "b=2");
        checks.same("equal d 30", x.names(Bytes.equal("d", "30")), "b=1");
        checks.same("equal e 30", x.names(Bytes.equal("e", "30")), "");
        checks.same("equal d 3", x.names(Bytes.equal("d", "3")), "");
        checks.same("equal d 300", x.names(Bytes.equal("d", "300")), "");
        checks.same("equal a r", x.names(Bytes.equal("a", "r")), "a=r");
        checks.same("a long length", x.names(Bytes.longElement(135, Bytes.latin("b"))), "b=1 b=2");
    }

    private static void orderFilters(Checks checks) {
        Desk x = three(checks);
        checks.same("at least d 20", x.names(Bytes.atLeast("d", "20")), "b=1 b=2");
        checks.same("at least d 21", x.names(Bytes.atLeast("d", "21")), "b=1");
        checks.same("at least d 31", x.names(Bytes.atLeast("d", "31")), "");
        checks.same("at most d 20", x.names(Bytes.atMost("d", "20")), "b=1 b=2");
        checks.same("at most d 19", x.names(Bytes.atMost("d", "19")), "b=1");
        checks.same("at most d 1", x.names(Bytes.atMost("d", "1")), "");
        checks.same("which ends first is less", x.names(Bytes.atMost("d", "2")), "b=1");
        checks.same("at least 2", x.names(Bytes.atLeast("d", "2")), "b=1 b=2");
        checks.same("bytes, not numbers", x.names(Bytes.atMost("e", "40")), "");
        checks.same("letters are behind digits", x.names(Bytes.atLeast("e", "a")), "");
        checks.same("at least f abc", x.names(Bytes.atLeast("f", "abc")), "a=r b=2");
        checks.same("at least f abca", x.names(Bytes.atLeast("f", "abca")), "a=r");
        checks.same("at most f abcaaaaa", x.names(Bytes.atMost("f", "abcaaaaa")), "b=2");
        checks.same("at most f 9", x.names(Bytes.atMost("f", "9")), "");
        checks.same("at least f zzzzzzzz", x.names(Bytes.atLeast("f", "zzzzzzzz")), "");
        checks.same("at least e 5", x.names(Bytes.atLeast("e", "5")), "b=2");
    }

    private static void undefinedFilters(Checks checks) {
        byte[][] undefined = {Bytes.there("g"), Bytes.there(""), Bytes.there("ab"), Bytes.equal("g", "1"),
            Bytes.equal("", "1"), Bytes.equal("b", ""), Bytes.equal("b", "A"), Bytes.equal("b", "123456789"),
            Bytes.atLeast("g", "1"), Bytes.atLeast("d", "?"), Bytes.atMost("dd", "1"), Bytes.atMost("e", ""),
            Bytes.atLeast("a", "0"), Bytes.atLeast("b", "1"), Bytes.atLeast("c", "1"), Bytes.atMost("a", "z"),
            Bytes.atMost("b", "z"), Bytes.atMost("c", "z")};
        for (byte[] filter : undefined) {
            Desk x = three(checks);
            String what = Bytes.shown(filter);
            checks.same(what, x.names(filter), "");
            checks.same("not " + what, x.names(Bytes.not(filter)), "");
        }
        byte[][] defined = {Bytes.there("c"), Bytes.equal("c", "1"), Bytes.atLeast("d", "z"), Bytes.atMost("f", "0")};
        for (byte[] filter : defined) {
            Desk x = three(checks);
            checks.same("not " + Bytes.shown(filter), x.names(Bytes.not(filter)), "a=r b=1 b=2");
        }
    }

    private static void joinedFilters(Checks checks) {
        byte[][] three = {Bytes.any(), Bytes.there("?"), Bytes.all()};
        for (int i = 0; i < 3; i++) {
            truth(checks, "one of " + i, three[i], i);
            truth(checks, "not " + i, Bytes.not(three[i]), 2 - i);
            truth(checks, "all of " + i, Bytes.all(three[i]), i);
            truth(checks, "any of " + i, Bytes.any(three[i]), i);
            for (int k = 0; k < 3; k++) {
                truth(checks, "all of " + i + " " + k, Bytes.all(three[i], three[k]), Math.min(i, k));
                truth(checks, "any of " + i + " " + k, Bytes.any(three[i], three[k]), Math.max(i, k));
            }
        }
        truth(checks, "inside one another", Bytes.all(Bytes.any(three[0], three[2]), Bytes.not(three[0])), 2);
        truth(checks, "behind one inside", Bytes.any(Bytes.all(three[0], three[2]), three[1]), 1);
        truth(checks, "last of all", Bytes.all(Bytes.all(Bytes.all(three[2]), three[2]), three[0]), 0);
        truth(checks, "not not", Bytes.not(Bytes.not(three[1])), 1);
    }

    /** Truth is 0 for false, 1 for undefined, 2 for true; asked of the first entry, by the filter and its NOT. */
    private static void truth(Checks checks, String what, byte[] filter, int truth) {
        Desk x = new Desk(checks);
        checks.same(what + " is true", x.names(filter), truth == 2 ? "a=r" : "");
        checks.same(what + " is false", x.names(Bytes.not(filter)), truth == 0 ? "a=r" : "");
    }

    private static void malformedFilters(Checks checks) {
        Desk x = new Desk(checks);
        byte[] a = Bytes.text("a");
        byte[][] malformed = {Bytes.element(162), Bytes.element(162, Bytes.all(), Bytes.all()),
            Bytes.element(163, a), Bytes.element(163, a, a, a), Bytes.element(163), Bytes.element(165, a),
            Bytes.element(166, a, Bytes.number(1)), Bytes.element(164, a, a), Bytes.element(167, a, a),
            Bytes.element(134, Bytes.of(97)), Bytes.element(136), Bytes.element(160, a), Bytes.element(161, Bytes.of(0)),
            Bytes.all(Bytes.all(), Bytes.any(Bytes.element(162))), Bytes.of(160, 1), Bytes.of(135, 128),
            Bytes.element(160, Bytes.of(135, 2, 97)), Bytes.of()};
        for (byte[] filter : malformed) {
            x.gives("filter " + Bytes.shown(filter), Bytes.search("", 2, 0, 0, filter), 2);
        }
    }

    private static void deepFilters(Checks checks) {
        Desk x = new Desk(checks);
        byte[] six = nested(160, Bytes.there("a"), 5);
        x.gives("six deep", Bytes.search("", 2, 0, 0, six), 0);
        checks.same("six deep is true", x.names(six), "a=r");
        checks.same("six deep is false", x.names(nested(162, Bytes.there("a"), 5)), "");
        x.gives("seven deep", Bytes.search("", 2, 0, 0, nested(160, Bytes.there("a"), 6)), 2);
        x.gives("seven deep and empty", Bytes.search("", 2, 0, 0, nested(161, Bytes.all(), 6)), 2);
        x.gives("seven deep behind others",
                Bytes.search("", 2, 0, 0, Bytes.any(Bytes.there("a"), nested(162, Bytes.there("a"), 5))), 2);
        x.gives("far too deep", Bytes.search("", 2, 0, 0, nested(162, Bytes.all(), 60)), 2);
        x.gives("six deep twice", Bytes.search("", 2, 0, 0, Bytes.all(nested(160, Bytes.all(), 4),
                nested(161, Bytes.all(), 4))), 0);
    }

    private static byte[] nested(int tag, byte[] inside, int times) {
        byte[] filter = inside;
        for (int i = 0; i < times; i++) {
            filter = Bytes.element(tag, filter);
        }
        return filter;
    }

    private static void manyFilters(Checks checks) {
        Desk x = new Desk(checks);
        byte[] there = Bytes.there("a");
        byte[][] nineteen = new byte[19][];
        java.util.Arrays.fill(nineteen, there);
        byte[][] twenty = new byte[20][];
        java.util.Arrays.fill(twenty, there);
        x.gives("20 filters", Bytes.search("", 2, 0, 0, Bytes.all(nineteen)), 0);
        checks.same("20 filters are true", x.names(Bytes.all(nineteen)), "a=r");
        nineteen[18] = Bytes.there("b");
        checks.same("the last of them counts", x.names(Bytes.all(nineteen)), "");
        checks.same("any of them", x.names(Bytes.any(nineteen)), "a=r");
        x.gives("21 filters", Bytes.search("", 2, 0, 0, Bytes.all(twenty)), 2);
        nineteen[18] = Bytes.not(there);
        x.gives("21 filters, one of them inside", Bytes.search("", 2, 0, 0, Bytes.any(nineteen)), 2);
    }

    private static void answers(Checks checks) {
        Desk x = Desk.signedOn(checks);
        x.gives("add", Bytes.add("b=1,a=r", Bytes.attribute("d", "9"), Bytes.attribute("b", "1"),
                Bytes.attribute("d", "10"), Bytes.attribute("a", "12345678")), 0);
        byte[] all = Bytes.all();
        byte[] last = Bytes.last(7, 101, 0, "");
        byte[] first = Bytes.found(7, "a=r", Bytes.attribute("a", "r"), Bytes.attribute("f", "x"));
        x.answers("all", Bytes.search("", 2, 0, 0, all), first, Bytes.found(7, "b=1,a=r",
                Bytes.attribute("a", "12345678"), Bytes.attribute("b", "1"), Bytes.attribute("d", "9", "10")), last);
        x.answers("types alone", Bytes.search("", 2, 0, 1, all), Bytes.found(7, "a=r", Bytes.attribute("a"),
                Bytes.attribute("f")), Bytes.found(7, "b=1,a=r", Bytes.attribute("a"), Bytes.attribute("b"),
                Bytes.attribute("d")), last);
        x.answers("types alone by another flag", Bytes.search("a=r", 0, 0, 255, all),
                Bytes.found(7, "a=r", Bytes.attribute("a"), Bytes.attribute("f")), last);
        x.answers("some types", Bytes.search("", 2, 0, 0, all, "f", "d", "e", "d"),
                Bytes.found(7, "a=r", Bytes.attribute("f", "x")),
                Bytes.found(7, "b=1,a=r", Bytes.attribute("d", "9", "10")), last);
        x.answers("no types", Bytes.search("a=r", 0, 0, 0, all, "ab", "", "G", "g"), Bytes.found(7, "a=r"), last);
        x.answers("an empty text", Bytes.search("a=r", 0, 0, 0, all, ""), Bytes.found(7, "a=r"), last);
        x.answers("some types alone", Bytes.search("a=r", 0, 0, 1, all, "a"),
                Bytes.found(7, "a=r", Bytes.attribute("a")), last);
        x.answers("none found", Bytes.search("", 2, 0, 0, Bytes.any()), last);
        x.answers("a limit", Bytes.search("", 2, 1, 0, all), first, Bytes.last(7, 101, 4, ""));
        x.answers("no such base", Bytes.search("b=2,a=r", 2, 0, 0, all), Bytes.last(7, 101, 32, "a=r"));
        x.answers("malformed", Bytes.element(99), Bytes.last(7, 101, 2, ""));
        x.answers("sign", Bytes.sign(3, "", ""), Bytes.last(7, 97, 0, ""));
        x.answers("add", Bytes.add("a=r"), Bytes.last(7, 105, 50, ""));
        x.answers("modify", Bytes.modify("a=r"), Bytes.last(7, 103, 50, ""));
        x.answers("delete", Bytes.delete("a=r"), Bytes.last(7, 107, 50, ""));
        x.sendRaw(Bytes.message(300, Bytes.search("a=r", 0, 0, 0, all)));
        checks.same("an id of two bytes", Bytes.shown(x.answer()), Bytes.shown(Bytes.join(
                Bytes.found(300, "a=r", Bytes.attribute("a", "r"), Bytes.attribute("f", "x")),
                Bytes.last(300, 101, 0, ""))));
    }

    private static void roomInAnEntry(Checks checks) {
        Desk x = Desk.signedOn(checks);
        add(x, "c=1", "c=1");
        add(x, "b=12345671", "b=12345671");
        // With the id 7 the contents are 63 bytes, those of the name and those of its six values.
        String name = "f=1234567,b=12345671";
        byte[][] six = {Bytes.attribute("a", "12345678"), Bytes.attribute("b", "12345678"),
            Bytes.attribute("c", "12345678"), Bytes.attribute("d", "12345678"), Bytes.attribute("e", "123456"),
            Bytes.attribute("f", "1234567")};
        x.gives("a long entry", Bytes.add(name, six), 0);
        add(x, "c=2", "c=2");
        byte[] all = Bytes.all();
        x.answers("128 bytes", Bytes.search(name, 0, 0, 0, all), Bytes.last(7, 101, 11, ""));
        x.gives("its types alone", Bytes.search(name, 0, 0, 1, all), 0);
        x.gives("some of its types", Bytes.search(name, 0, 0, 0, all, "a", "b", "c", "d", "e"), 0);

        byte[] some = Bytes.any(Bytes.equal("c", "1"), Bytes.equal("e", "123456"), Bytes.equal("c", "2"));
        byte[] first = Bytes.found(7, "c=1", Bytes.attribute("c", "1"));
        x.answers("none behind it is answered", Bytes.search("", 2, 0, 0, some), first, Bytes.last(7, 101, 11, ""));
        x.answers("11 when there are no more", Bytes.search("", 2, 3, 0, some), first, Bytes.last(7, 101, 11, ""));
        x.answers("4 when there are more", Bytes.search("", 2, 2, 0, some), first, Bytes.last(7, 101, 4, ""));
        x.answers("4 when it was beyond the limit", Bytes.search("", 2, 1, 0, some), first, Bytes.last(7, 101, 4, ""));

        x.gives("one byte less", Bytes.modify(name, Bytes.change(2, "e", "12345")), 0);
        six[4] = Bytes.attribute("e", "12345");
        x.answers("127 bytes", Bytes.search(name, 0, 0, 0, all), Bytes.found(7, name, six), Bytes.last(7, 101, 0, ""));
        checks.same("an id of two bytes", x.sendRaw(Bytes.message(128, Bytes.search(name, 0, 0, 0, all))), 11);
        checks.same("what comes last alone", Bytes.shown(x.answer()), Bytes.shown(Bytes.last(128, 101, 11, "")));
    }

    private static void roomInTheAnswer(Checks checks) {
        String lengths = "";
        for (int length = 1; length <= 8; length++) {
            Desk x = Desk.signedOn(checks);
            byte[][] found = new byte[3][];
            int[] last = {8, 5, length};
            for (int e = 0; e < 3; e++) {
                String name = "a=v" + e;
                byte[][] attributes = {Bytes.attribute("a", "v" + e), Bytes.attribute("c", "12345678", "12345677"),
                    Bytes.attribute("d", "12345678", "12345677"), Bytes.attribute("e", "12345678".substring(0, last[e]))};
                x.gives("add " + name, Bytes.add(name, attributes), 0);
                found[e] = Bytes.found(7, name, attributes);
            }
            byte[] two = Bytes.join(found[0], found[1]);
            int entries = two.length + found[2].length;
            lengths += entries + " ";
            boolean fits = entries <= 284;
            x.answers("entries of " + entries + " bytes", Bytes.search("", 2, 0, 0, Bytes.there("c")), two,
                    fits ? found[2] : Bytes.of(), Bytes.last(7, 101, fits ? 0 : 11, ""));
            x.answers("two of them", Bytes.search("", 2, 2, 0, Bytes.there("c")), two, Bytes.last(7, 101, 4, ""));
            x.gives("as many as there are", Bytes.search("", 2, 3, 0, Bytes.there("c")), fits ? 0 : 11);
        }
        checks.same("the edge was met", lengths, "281 282 283 284 285 286 287 288 ");
    }

    private static void readingTheAnswer(Checks checks) {
        Desk x = new Desk(checks);
        x.gives("nobody", Bytes.delete("a=r"), 50);
        // 48 12 2 1 7 107 7 10 1 50 4 0 4 0
        checks.same("answered", x.desk.answered(), 14);
        checks.same("answer 0", x.desk.answer(0), 0x300c0201076b07L);
        checks.same("answer 1", x.desk.answer(1), 0x0c0201076b070aL);
        checks.same("answer 7", x.desk.answer(7), 0x0a013204000400L);
        checks.same("answer 8", x.desk.answer(8), 0x013204000400L);
        checks.same("answer 10", x.desk.answer(10), 0x04000400L);
        checks.same("answer 12", x.desk.answer(12), 0x0400L);
        checks.same("answer 13", x.desk.answer(13), 0L);
        checks.same("answer 14", x.desk.answer(14), -1L);
        checks.same("answer -1", x.desk.answer(-1), -1L);
        checks.same("answer of the least", x.desk.answer(Integer.MIN_VALUE), -1L);
        checks.same("answer of the greatest", x.desk.answer(Integer.MAX_VALUE), -1L);
        x.desk.type(0, 8);
        checks.same("typing leaves the answer", x.desk.answered(), 14);
        x.desk.connect();
        checks.same("connecting leaves the answer", x.desk.answer(0), 0x300c0201076b07L);
        x.gives("another answer", Bytes.search("", 2, 0, 0, Bytes.all()), 0);
        checks.same("it takes the place", x.desk.answered(), 34 + 14);
        x.gives("a shorter one", Bytes.delete("a=r"), 50);
        checks.same("it takes the place again", x.desk.answered(), 14);
        checks.same("nothing of the longer one is left", x.desk.answer(14), -1L);
    }

    private static void add(Desk x, String name, String pair) {
        x.gives("add " + name, Bytes.add(name, Bytes.attribute(pair.substring(0, 1), pair.substring(2))), 0);
    }
}
