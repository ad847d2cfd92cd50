/** The edges of filters: what they are made of, how deep and how many, and when they are true, false or undefined. */
public final class FilterEdgeTest {
    private static final byte[] TRUE = Bytes.all();
    private static final byte[] FALSE = Bytes.any();
    private static final byte[] UNDEFINED = Bytes.there("");
    /** In their order ALL is the least of its filters, ANY the greatest. */
    private static final byte[][] TRUTHS = {FALSE, UNDEFINED, TRUE};
    private static final String[] TOLD = {"false", "undefined", "true"};

    public static void main(String[] args) {
        Checks checks = new Checks("FilterEdgeTest");
        kinds(checks);
        howManyInside(checks);
        deep(checks);
        deepOfEachKind(checks);
        many(checks);
        manyAndDeep(checks);
        all(checks);
        any(checks);
        not(checks);
        there(checks);
        equal(checks);
        atLeastAndAtMost(checks);
        undefinedTypes(checks);
        undefinedValues(checks);
        undefinedOrders(checks);
        checks.end();
    }

    private static int searchCode(Checks checks, byte[] filter) {
        return Desk.codeForNobody(checks, Bytes.search("", 2, 0, 0, filter));
    }

    private static void kinds(Checks checks) {
        Sentence s = new Sentence(checks, "A FILTER is 160 { FILTER* } (ALL), 161 { FILTER* } (ANY), 162 { FILTER } (NOT),"
                + " 163 { TEXT type; TEXT value } (EQUAL), 165 { the same } (AT LEAST), 166 { the same } (AT MOST),"
                + " or 135 { any bytes, a type } (THERE).");
        for (int tag = 0; tag < 256; tag++) {
            boolean isAny = tag == 160 || tag == 161 || tag == 135;
            s.side(isAny, tag + " with nothing", searchCode(checks, Bytes.element(tag)), isAny ? 0 : 2);
            boolean isRound = isAny || tag == 162;
            s.side(isRound, tag + " with a filter", searchCode(checks, Bytes.element(tag, TRUE)), isRound ? 0 : 2);
            boolean isPair = tag == 163 || tag == 165 || tag == 166 || tag == 135;
            byte[] pair = Bytes.element(tag, Bytes.text("d"), Bytes.text("1"));
            s.side(isPair, tag + " with two texts", searchCode(checks, pair), isPair ? 0 : 2);
            s.side(isPair, tag + " inside, with two texts", searchCode(checks, Bytes.not(pair)), isPair ? 0 : 2);
        }
        s.outside("no filter", searchCode(checks, Bytes.of()), 2);
        s.outside("two filters", searchCode(checks, Bytes.join(TRUE, TRUE)), 2);
        s.end();
    }

    private static void howManyInside(Checks checks) {
        Sentence not = new Sentence(checks, "162 { FILTER } (NOT)");
        not.outside("no filter", searchCode(checks, Bytes.element(162)), 2);
        not.inside("one filter", searchCode(checks, Bytes.element(162, TRUE)), 0);
        not.outside("two filters", searchCode(checks, Bytes.element(162, TRUE, TRUE)), 2);
        not.outside("a byte behind the filter", searchCode(checks, Bytes.element(162, TRUE, Bytes.of(160))), 2);
        not.end();
        Sentence pair = new Sentence(checks, "163 { TEXT type; TEXT value } (EQUAL), 165 { the same } (AT LEAST)");
        byte[] text = Bytes.text("d");
        for (int tag : new int[] {163, 165, 166}) {
            pair.outside(tag + " with one text", searchCode(checks, Bytes.element(tag, text)), 2);
            pair.inside(tag + " with two texts", searchCode(checks, Bytes.element(tag, text, text)), 0);
            pair.outside(tag + " with three texts", searchCode(checks, Bytes.element(tag, text, text, text)), 2);
            pair.outside(tag + " with a number first", searchCode(checks, Bytes.element(tag, Bytes.number(1), text)), 2);
            pair.outside(tag + " with a number last", searchCode(checks, Bytes.element(tag, text, Bytes.number(1))), 2);
            pair.inside(tag + " with empty texts", searchCode(checks, Bytes.element(tag, Bytes.text(""), Bytes.text(""))), 0);
        }
        pair.end();
    }

    private static byte[] nested(int tag, byte[] inside, int times) {
        byte[] filter = inside;
        for (int i = 0; i < times; i++) {
            filter = Bytes.element(tag, filter);
        }
        return filter;
    }

    private static void deep(Checks checks) {
        Sentence s = new Sentence(checks, "Filters lie inside one another at most six deep (the outermost one being 1)");
        for (int tag : new int[] {160, 161, 162}) {
            for (int depth = 1; depth <= 9; depth++) {
                byte[] filter = nested(tag, Bytes.there("a"), depth - 1);
                s.side(depth <= 6, depth + " deep in " + tag, searchCode(checks, filter), depth <= 6 ? 0 : 2);
                byte[] second = Bytes.element(160, Bytes.there("a"), nested(tag, Bytes.there("a"), depth - 1));
                s.side(depth <= 5, depth + " deep behind another", searchCode(checks, second), depth <= 5 ? 0 : 2);
            }
        }
        s.inside("six deep is judged", new Desk(checks).names(nested(162, FALSE, 5)), "a=r");
        s.inside("six deep is judged", new Desk(checks).names(nested(162, TRUE, 5)), "");
        s.inside("six deep, then six deep again", searchCode(checks,
                Bytes.all(nested(161, TRUE, 4), nested(162, TRUE, 4), nested(160, TRUE, 4))), 0);
        s.end();
    }

    private static void deepOfEachKind(Checks checks) {
        Sentence s = new Sentence(checks, "at most six deep");
        byte[][] kinds = {Bytes.all(), Bytes.any(), Bytes.there("a"), Bytes.there(""), Bytes.equal("a", "r"),
            Bytes.atLeast("f", "x"), Bytes.atMost("f", "x")};
        for (byte[] kind : kinds) {
            s.inside("six deep " + Bytes.shown(kind), searchCode(checks, nested(160, kind, 5)), 0);
            s.outside("seven deep " + Bytes.shown(kind), searchCode(checks, nested(160, kind, 6)), 2);
        }
        s.inside("a NOT that is fifth", searchCode(checks, nested(160, Bytes.not(TRUE), 4)), 0);
        s.outside("a NOT that is sixth", searchCode(checks, nested(160, Bytes.not(TRUE), 5)), 2);
        s.end();
    }

    private static byte[] repeated(byte[] piece, int times) {
        byte[][] pieces = new byte[times][];
        java.util.Arrays.fill(pieces, piece);
        return Bytes.join(pieces);
    }

    private static void many(Checks checks) {
        Sentence s = new Sentence(checks, "there are at most 20 in a message, counted as they begin.");
        byte[][] kinds = {Bytes.all(), Bytes.any(), Bytes.there("a"), Bytes.there("")};
        for (byte[] kind : kinds) {
            for (int count = 19; count <= 22; count++) {
                byte[] filter = Bytes.any(repeated(kind, count - 1));
                s.side(count <= 20, count + " of " + Bytes.shown(kind), searchCode(checks, filter), count <= 20 ? 0 : 2);
            }
        }
        s.inside("the twentieth is judged", new Desk(checks).names(Bytes.all(repeated(TRUE, 19))), "a=r");
        s.inside("the twentieth is judged", new Desk(checks).names(Bytes.all(repeated(TRUE, 18), FALSE)), "");
        s.inside("the twentieth is judged", new Desk(checks).names(Bytes.any(repeated(FALSE, 18), TRUE)), "a=r");
        Desk x = new Desk(checks);
        s.inside("20 once", x.code(Bytes.search("", 2, 0, 0, Bytes.all(repeated(TRUE, 19)))), 0);
        s.inside("20 again in the next message", x.code(Bytes.search("", 2, 0, 0, Bytes.all(repeated(TRUE, 19)))), 0);
        s.outside("21 in the next", x.code(Bytes.search("", 2, 0, 0, Bytes.all(repeated(TRUE, 20)))), 2);
        s.inside("20 in the next", x.code(Bytes.search("", 2, 0, 0, Bytes.all(repeated(TRUE, 19)))), 0);
        s.end();
    }

    /** Filters round others count, too. */
    private static void manyAndDeep(Checks checks) {
        Sentence s = new Sentence(checks, "counted as they begin");
        byte[] two = Bytes.not(TRUE);
        s.inside("nine of two, and two", searchCode(checks, Bytes.all(repeated(two, 9), TRUE)), 0);
        s.outside("ten of two, and one", searchCode(checks, Bytes.all(repeated(two, 10))), 2);
        s.outside("nine of two, and three", searchCode(checks, Bytes.all(repeated(two, 9), TRUE, TRUE)), 2);
        s.outside("nine of two, and three, the last of them inside", searchCode(checks, Bytes.all(repeated(two, 9), two)), 2);
        byte[] five = nested(161, TRUE, 4);
        s.inside("three of five, and five", searchCode(checks, Bytes.all(five, five, five, repeated(TRUE, 4))), 0);
        s.outside("three of five, and six", searchCode(checks, Bytes.all(five, five, five, repeated(TRUE, 5))), 2);
        s.outside("four of five, and one", searchCode(checks, Bytes.all(five, five, five, five)), 2);
        s.end();
    }

    /** What a filter is for the entry a=r with the pairs a r and f x: asked by it and by its NOT. */
    private static String truth(Checks checks, byte[] filter) {
        return truth(new Desk(checks), "a=r", filter);
    }

    private static String truth(Desk x, String name, byte[] filter) {
        if (x.names(name, 0, 0, filter).equals(name)) {
            return "true";
        }
        return x.names(name, 0, 0, Bytes.not(filter)).equals(name) ? "false" : "undefined";
    }

    private static void all(Checks checks) {
        Sentence s = new Sentence(checks, "ALL: false if one of its filters is, otherwise undefined if one is, otherwise true.");
        lists(s, checks, 160);
        s.end();
    }

    private static void any(Checks checks) {
        Sentence s = new Sentence(checks, "ANY: true if one is, otherwise undefined if one is, otherwise false.");
        lists(s, checks, 161);
        s.end();
    }

    /** All lists of up to three filters, each one false, undefined or true. */
    private static void lists(Sentence s, Checks checks, int tag) {
        boolean isAll = tag == 160;
        for (int length = 0; length <= 3; length++) {
            int count = length == 0 ? 1 : length == 1 ? 3 : length == 2 ? 9 : 27;
            for (int number = 0; number < count; number++) {
                byte[] filters = {};
                int due = isAll ? 2 : 0;
                StringBuilder what = new StringBuilder();
                int rest = number;
                for (int i = 0; i < length; i++) {
                    int one = rest % 3;
                    rest /= 3;
                    filters = Bytes.join(filters, TRUTHS[one]);
                    due = isAll ? Math.min(due, one) : Math.max(due, one);
                    what.append(' ').append(TOLD[one]);
                }
                s.side(due == 2, tag + " of" + what, truth(checks, Bytes.element(tag, filters)), TOLD[due]);
            }
        }
    }

    private static void not(Checks checks) {
        Sentence s = new Sentence(checks, "NOT: the other one of true and false; undefined stays.");
        s.inside("of false", truth(checks, Bytes.not(FALSE)), "true");
        s.inside("of true", truth(checks, Bytes.not(TRUE)), "false");
        s.outside("of undefined", truth(checks, Bytes.not(UNDEFINED)), "undefined");
        s.outside("twice of undefined", truth(checks, Bytes.not(Bytes.not(UNDEFINED))), "undefined");
        s.end();
    }

    private static void there(Checks checks) {
        Sentence s = new Sentence(checks, "THERE: whether it has a pair with the type.");
        for (String type : new String[] {"a", "b", "c", "d", "e", "f"}) {
            boolean isThere = type.equals("a") || type.equals("f");
            s.side(isThere, type, truth(checks, Bytes.there(type)), isThere ? "true" : "false");
        }
        Desk x = Desk.signedOn(checks);
        s.outside("before it comes", truth(x, "a=r", Bytes.there("c")), "false");
        x.gives("more", Bytes.modify("a=r", Bytes.change(0, "c", "1", "2")), 0);
        s.inside("when there are two", truth(x, "a=r", Bytes.there("c")), "true");
        x.gives("less", Bytes.modify("a=r", Bytes.change(1, "c", "1")), 0);
        s.inside("when there is one", truth(x, "a=r", Bytes.there("c")), "true");
        x.gives("less", Bytes.modify("a=r", Bytes.change(1, "c", "2")), 0);
        s.outside("when there is none", truth(x, "a=r", Bytes.there("c")), "false");
        s.end();
    }

    private static void equal(Checks checks) {
        Sentence s = new Sentence(checks, "EQUAL: whether it has the pair.");
        Desk x = Desk.signedOn(checks);
        x.gives("add", Bytes.add("b=1", Bytes.attribute("b", "1"), Bytes.attribute("c", "m", "mmmmmmmm")), 0);
        s.inside("the first", truth(x, "b=1", Bytes.equal("c", "m")), "true");
        s.inside("the last", truth(x, "b=1", Bytes.equal("c", "mmmmmmmm")), "true");
        for (String other : new String[] {"l", "n", "mm", "m0", "lzzzzzzz", "mmmmmmm", "mmmmmmml", "mmmmmmmn", "1"}) {
            s.outside(other, truth(x, "b=1", Bytes.equal("c", other)), "false");
        }
        s.outside("of another type", truth(x, "b=1", Bytes.equal("d", "m")), "false");
        s.inside("of the own part", truth(x, "b=1", Bytes.equal("b", "1")), "true");
        s.outside("of another entry", truth(x, "b=1", Bytes.equal("a", "r")), "false");
        s.end();
    }

    private static void atLeastAndAtMost(Checks checks) {
        Sentence s = new Sentence(checks,
                "AT LEAST, AT MOST: whether it has a pair of the type with a value not less, not greater.");
        for (String type : new String[] {"d", "e", "f"}) {
            Desk x = Desk.signedOn(checks);
            x.gives("add", Bytes.add("b=z", Bytes.attribute("b", "z"), Bytes.attribute(type, "m", "k")), 0);
            // The value just below m is lzzzzzzz, that just above it is m0; those of k are jzzzzzzz and k0.
            order(s, x, type, "jzzzzzzz", true, false);
            order(s, x, type, "k", true, true);
            order(s, x, type, "k0", true, true);
            order(s, x, type, "lzzzzzzz", true, true);
            order(s, x, type, "m", true, true);
            order(s, x, type, "m0", false, true);
            order(s, x, type, "0", true, false);
            order(s, x, type, "zzzzzzzz", false, true);
            String other = type.equals("d") ? "e" : "d";
            order(s, x, other, "m", false, false);
        }
        Desk x = Desk.signedOn(checks);
        x.gives("add", Bytes.add("b=z", Bytes.attribute("b", "z"), Bytes.attribute("d", "mmmmmmmm")), 0);
        order(s, x, "d", "mmmmmmml", true, false);
        order(s, x, "d", "mmmmmmm", true, false);
        order(s, x, "d", "mmmmmmmm", true, true);
        order(s, x, "d", "mmmmmmmn", false, true);
        s.end();
    }

    private static void order(Sentence s, Desk x, String type, String value, boolean isAtLeast, boolean isAtMost) {
        s.side(isAtLeast, type + " at least " + value, truth(x, "b=z", Bytes.atLeast(type, value)), "" + isAtLeast);
        s.side(isAtMost, type + " at most " + value, truth(x, "b=z", Bytes.atMost(type, value)), "" + isAtMost);
    }

    private static void undefinedTypes(Checks checks) {
        Sentence s = new Sentence(checks, "Undefined: any of the last four if it has no type");
        for (int b = 0; b < 256; b++) {
            String type = String.valueOf((char) b);
            boolean isType = b >= 'a' && b <= 'f';
            String there = !isType ? "undefined" : b == 'a' || b == 'f' ? "true" : "false";
            s.side(!isType, "THERE " + b, truth(checks, Bytes.there(type)), there);
            String equal = !isType ? "undefined" : b == 'f' ? "true" : "false";
            s.side(!isType, "EQUAL " + b, truth(checks, Bytes.equal(type, "x")), equal);
            boolean isDefined = b >= 'd' && b <= 'f';
            String order = !isDefined ? "undefined" : b == 'f' ? "true" : "false";
            s.side(!isDefined, "AT LEAST " + b, truth(checks, Bytes.atLeast(type, "x")), order);
            s.side(!isDefined, "AT MOST " + b, truth(checks, Bytes.atMost(type, "x")), order);
        }
        for (String type : new String[] {"", "ff", "af", "f="}) {
            s.inside("THERE " + type, truth(checks, Bytes.there(type)), "undefined");
            s.inside("EQUAL " + type, truth(checks, Bytes.equal(type, "x")), "undefined");
            s.inside("AT LEAST " + type, truth(checks, Bytes.atLeast(type, "x")), "undefined");
            s.inside("AT MOST " + type, truth(checks, Bytes.atMost(type, "x")), "undefined");
        }
        s.inside("THERE with a TEXT in it", truth(checks, Bytes.element(135, Bytes.text("f"))), "undefined");
        s.end();
    }

    private static void undefinedValues(Checks checks) {
        Sentence s = new Sentence(checks, "EQUAL, AT LEAST and AT MOST if the value is none");
        for (int b = 0; b < 256; b++) {
            String value = String.valueOf((char) b);
            boolean isValue = b >= '0' && b <= '9' || b >= 'a' && b <= 'z';
            s.side(!isValue, "EQUAL " + b, truth(checks, Bytes.equal("f", value)),
                    !isValue ? "undefined" : "" + (b == 'x'));
            s.side(!isValue, "AT LEAST " + b, truth(checks, Bytes.atLeast("f", value)),
                    !isValue ? "undefined" : "" + (b <= 'x'));
            s.side(!isValue, "AT MOST " + b, truth(checks, Bytes.atMost("f", value)),
                    !isValue ? "undefined" : "" + (b >= 'x'));
        }
        s.inside("no bytes", truth(checks, Bytes.equal("f", "")), "undefined");
        s.inside("no bytes at least", truth(checks, Bytes.atLeast("f", "")), "undefined");
        s.inside("no bytes at most", truth(checks, Bytes.atMost("f", "")), "undefined");
        s.outside("eight bytes", truth(checks, Bytes.equal("f", "xxxxxxxx")), "false");
        s.outside("eight bytes at least", truth(checks, Bytes.atLeast("f", "xxxxxxxx")), "false");
        s.outside("eight bytes at most", truth(checks, Bytes.atMost("f", "xxxxxxxx")), "true");
        s.inside("nine bytes", truth(checks, Bytes.equal("f", "xxxxxxxxx")), "undefined");
        s.inside("nine bytes at least", truth(checks, Bytes.atLeast("f", "xxxxxxxxx")), "undefined");
        s.inside("nine bytes at most", truth(checks, Bytes.atMost("f", "xxxxxxxxx")), "undefined");
        s.inside("even if it has no such pair", truth(checks, Bytes.equal("b", "")), "undefined");
        s.end();
    }

    private static void undefinedOrders(Checks checks) {
        Sentence s = new Sentence(checks, "AT LEAST and AT MOST if the type is not d, e or f.");
        for (String type : new String[] {"a", "b", "c", "d", "e", "f"}) {
            Desk x = Desk.signedOn(checks);
            x.gives("add", Bytes.add("b=z", Bytes.attribute("b", "z"), Bytes.attribute(type, "m")), 0);
            boolean isOrdered = type.compareTo("d") >= 0;
            String due = isOrdered ? "true" : "undefined";
            s.side(!isOrdered, "at least " + type, truth(x, "b=z", Bytes.atLeast(type, "m")), due);
            s.side(!isOrdered, "at most " + type, truth(x, "b=z", Bytes.atMost(type, "m")), due);
            s.outside("equal " + type, truth(x, "b=z", Bytes.equal(type, "m")), "true");
        }
        s.end();
    }
}
