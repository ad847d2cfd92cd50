import java.io.ByteArrayOutputStream;
import java.nio.charset.StandardCharsets;
import java.util.ArrayList;
import java.util.Arrays;
import java.util.Collections;
import java.util.HashSet;
import java.util.List;
import java.util.Set;

/**
 * The document once more, written another way (texts, lists and exceptions, nothing shared with the
 * program): ModelTest compares the two.
 */
final class Model {
    static final class Entry {
        final String name;
        List<String> pairs;

        Entry(String name, List<String> pairs) {
            this.name = name;
            this.pairs = pairs;
        }
    }

    private record Element(int tag, byte[] contents) {
        String text() {
            return new String(contents, StandardCharsets.ISO_8859_1);
        }

        int number() {
            if (contents.length == 1) {
                return contents[0];
            }
            require(contents.length == 2);
            return contents[0] * 256 + (contents[1] & 255);
        }

        int single() {
            require(contents.length == 1);
            return contents[0] & 255;
        }
    }

    private static final class Malformed extends RuntimeException {
        private static final long serialVersionUID = 1L;
    }

    private static final class Code extends RuntimeException {
        private static final long serialVersionUID = 1L;
        final int code;

        Code(int code) {
            this.code = code;
        }
    }

    private static final String PART = "[a-f]=[a-z0-9]{1,8}";

    final List<Entry> entries = new ArrayList<>();
    boolean open = true;
    boolean signed;
    byte[] answer = new byte[0];
    private int id;
    private String asked = "";
    private final ByteArrayOutputStream found = new ByteArrayOutputStream();

    Model() {
        entries.add(new Entry("a=r", List.of("a=r", "f=x")));
    }

    void connect() {
        open = true;
        signed = false;
    }

    int handle(byte[] typed) {
        if (!open) {
            return -1;
        }
        Element operation;
        try {
            Element message = one(typed, 48);
            List<Element> inside = elements(message.contents);
            require(inside.size() == 2 && inside.get(0).tag == 2 && inside.get(0).number() >= 0);
            id = inside.get(0).number();
            operation = inside.get(1);
            require(List.of(96, 99, 102, 104, 74).contains(operation.tag));
        } catch (Malformed closing) {
            open = false;
            signed = false;
            answer = new byte[0];
            return -1;
        }
        found.reset();
        int code = code(operation);
        int done = List.of(97, 101, 103, 105, 107).get(List.of(96, 99, 102, 104, 74).indexOf(operation.tag));
        answer = Bytes.join(found.toByteArray(), Bytes.last(id, done, code, code == 32 ? nearest(asked) : ""));
        return code;
    }

    private int code(Element operation) {
        try {
            switch (operation.tag) {
                case 96:
                    sign(elements(operation.contents, 2, 4, 128));
                    break;
                case 99:
                    search(elements(operation.contents, 4, 10, 10, 2, 2, 1, -1, 48));
                    break;
                case 102:
                    modify(elements(operation.contents, 4, 48));
                    break;
                case 104:
                    add(elements(operation.contents, 4, 48));
                    break;
                default:
                    delete(operation.text());
                    break;
            }
            return 0;
        } catch (Malformed malformed) {
            return 2;
        } catch (Code code) {
            return code.code;
        }
    }

    private void sign(List<Element> pieces) {
        int version = pieces.get(0).number();
        String name = pieces.get(1).text();
        String password = pieces.get(2).text();
        signed = false;
        codeIf(2, version != 3);
        codeIf(34, !isName(name) && !name.isEmpty());
        codeIf(53, isName(name) && password.isEmpty());
        codeIf(49, name.isEmpty() && !password.isEmpty());
        codeIf(49, !name.isEmpty() && (get(name) == null || !get(name).pairs.contains("f=" + password)));
        signed = !name.isEmpty();
    }

    private void mayChange(String name) {
        codeIf(50, !signed);
        codeIf(34, !isName(name));
        asked = name;
    }

    private void add(List<Element> pieces) {
        String name = pieces.get(0).text();
        List<Element> attributes = elements(pieces.get(1).contents);
        checkAttributes(attributes);
        mayChange(name);
        codeIf(68, get(name) != null);
        codeIf(32, !parent(name).isEmpty() && get(parent(name)) == null);
        List<String> pairs = new ArrayList<>();
        for (Element attribute : attributes) {
            more(pairs, type(attribute), values(attribute));
        }
        codeIf(64, !pairs.contains(name.split(",")[0]));
        codeIf(53, entries.size() == 16 || pairs.size() > 6);
        entries.add(new Entry(name, pairs));
    }

    private void delete(String name) {
        mayChange(name);
        codeIf(32, get(name) == null);
        codeIf(66, entries.stream().anyMatch(other -> parent(other.name).equals(name)));
        entries.remove(get(name));
    }

    private void modify(List<Element> pieces) {
        String name = pieces.get(0).text();
        List<Element> attributes = new ArrayList<>();
        List<Integer> kinds = new ArrayList<>();
        for (Element change : elements(pieces.get(1).contents)) {
            require(change.tag == 48);
            List<Element> halves = elements(change.contents, 10, 48);
            require(halves.get(0).single() <= 2);
            kinds.add(halves.get(0).single());
            attributes.add(halves.get(1));
        }
        checkAttributes(attributes);
        mayChange(name);
        codeIf(32, get(name) == null);
        List<String> pairs = new ArrayList<>(get(name).pairs);
        for (int i = 0; i < kinds.size(); i++) {
            String type = type(attributes.get(i));
            List<Element> values = values(attributes.get(i));
            codeIf(17, !isType(type));
            if (kinds.get(i) == 1) {
                less(pairs, type, values);
            } else {
                if (kinds.get(i) == 2) {
                    pairs.removeIf(pair -> pair.startsWith(type));
                }
                more(pairs, type, values);
            }
        }
        codeIf(67, !pairs.contains(name.split(",")[0]));
        codeIf(53, pairs.size() > 6);
        get(name).pairs = pairs;
    }

    private static void more(List<String> pairs, String type, List<Element> values) {
        codeIf(17, !isType(type));
        for (Element value : values) {
            codeIf(21, !isValue(value.text()));
            codeIf(20, pairs.contains(type + "=" + value.text()));
            pairs.add(type + "=" + value.text());
        }
    }

    private static void less(List<String> pairs, String type, List<Element> values) {
        for (Element value : values) {
            codeIf(21, !isValue(value.text()));
            codeIf(16, !pairs.remove(type + "=" + value.text()));
        }
        if (values.isEmpty()) {
            codeIf(16, !pairs.removeIf(pair -> pair.startsWith(type)));
        }
    }

    private static void checkAttributes(List<Element> attributes) {
        int count = 0;
        for (Element attribute : attributes) {
            require(attribute.tag == 48);
            elements(attribute.contents, 4, 49);
            for (Element value : values(attribute)) {
                require(value.tag == 4);
                count++;
            }
        }
        require(attributes.size() <= 12 && count <= 24);
    }

    private static String type(Element attribute) {
        return elements(attribute.contents).get(0).text();
    }

    private static List<Element> values(Element attribute) {
        return elements(elements(attribute.contents).get(1).contents);
    }

    private void search(List<Element> pieces) {
        String base = pieces.get(0).text();
        int scope = pieces.get(1).single();
        int limit = pieces.get(3).number();
        pieces.get(4).number();
        require(scope <= 2 && pieces.get(2).single() <= 3 && limit >= 0);
        boolean typesAlone = pieces.get(5).single() != 0;
        Element filter = pieces.get(6);
        int[] count = {0};
        checkFilter(filter, 1, count);
        Set<String> wanted = new HashSet<>();
        List<Element> texts = elements(pieces.get(7).contents);
        for (Element text : texts) {
            require(text.tag == 4);
            wanted.add(text.text());
        }
        require(texts.size() <= 12);

        codeIf(34, !isName(base) && !base.isEmpty());
        asked = base;
        codeIf(32, !base.isEmpty() && get(base) == null);
        List<Entry> all = new ArrayList<>();
        for (Entry entry : entries) {
            if (isInScope(entry.name, base, scope) && Boolean.TRUE.equals(truth(filter, entry))) {
                all.add(entry);
            }
        }
        List<Entry> first = limit == 0 ? all : all.subList(0, Math.min(limit, all.size()));
        boolean fits = true;
        for (Entry entry : first) {
            byte[] shown = shown(entry, typesAlone, texts.isEmpty() ? Set.of("a", "b", "c", "d", "e", "f") : wanted);
            fits = fits && shown != null && 300 - found.size() - shown.length >= 16;
            if (fits) {
                found.writeBytes(shown);
            }
        }
        codeIf(4, first.size() < all.size());
        codeIf(11, !fits);
    }

    private byte[] shown(Entry entry, boolean typesAlone, Set<String> wanted) {
        List<byte[]> attributes = new ArrayList<>();
        for (String type : "a b c d e f".split(" ")) {
            String[] values = entry.pairs.stream().filter(pair -> pair.startsWith(type))
                    .map(pair -> pair.substring(2)).toArray(String[]::new);
            if (wanted.contains(type) && values.length > 0) {
                attributes.add(Bytes.attribute(type, typesAlone ? new String[0] : values));
            }
        }
        byte[] shown = Bytes.found(id, entry.name, attributes.toArray(new byte[0][]));
        // Bytes would write a length of two bytes then.
        return shown[1] == (byte) 129 ? null : shown;
    }

    private static boolean isInScope(String name, String base, int scope) {
        boolean isUnder = base.isEmpty() || name.endsWith("," + base);
        switch (scope) {
            case 0:
                return name.equals(base);
            case 1:
                return parent(name).equals(base);
            default:
                return name.equals(base) || isUnder;
        }
    }

    private static void checkFilter(Element filter, int depth, int[] count) {
        count[0]++;
        require(depth <= 6 && count[0] <= 20);
        switch (filter.tag) {
            case 160:
            case 161:
                for (Element inner : elements(filter.contents)) {
                    checkFilter(inner, depth + 1, count);
                }
                break;
            case 162:
                checkFilter(elements(filter.contents, -1).get(0), depth + 1, count);
                break;
            case 163:
            case 165:
            case 166:
                elements(filter.contents, 4, 4);
                break;
            default:
                require(filter.tag == 135);
                break;
        }
    }

    /** Null stands for undefined. */
    private static Boolean truth(Element filter, Entry entry) {
        if (filter.tag == 135) {
            String type = filter.text();
            return isType(type) ? entry.pairs.stream().anyMatch(pair -> pair.startsWith(type)) : null;
        }
        List<Element> inner = elements(filter.contents);
        if (filter.tag >= 163) {
            return compared(filter.tag, inner.get(0).text(), inner.get(1).text(), entry);
        }
        List<Boolean> truths = new ArrayList<>();
        for (Element one : inner) {
            truths.add(truth(one, entry));
        }
        if (filter.tag == 162) {
            return truths.get(0) == null ? null : !truths.get(0);
        }
        boolean strong = filter.tag == 161;
        if (truths.contains(strong)) {
            return strong;
        }
        return truths.contains(null) ? null : Boolean.valueOf(!strong);
    }

    private static Boolean compared(int tag, String type, String value, Entry entry) {
        if (!isType(type) || !isValue(value) || tag != 163 && "abc".contains(type)) {
            return null;
        }
        for (String pair : entry.pairs) {
            int order = pair.substring(2).compareTo(value);
            boolean holds = tag == 163 ? order == 0 : tag == 165 ? order >= 0 : order <= 0;
            if (pair.startsWith(type) && holds) {
                return true;
            }
        }
        return false;
    }

    private String nearest(String name) {
        String end = parent(name);
        while (!end.isEmpty() && get(end) == null) {
            end = parent(end);
        }
        return end;
    }

    private Entry get(String name) {
        return entries.stream().filter(entry -> entry.name.equals(name)).findFirst().orElse(null);
    }

    private static String parent(String name) {
        return name.contains(",") ? name.substring(name.indexOf(',') + 1) : "";
    }

    private static boolean isName(String text) {
        return text.matches(PART + "(," + PART + "){0,3}");
    }

    private static boolean isType(String text) {
        return text.matches("[a-f]");
    }

    private static boolean isValue(String text) {
        return text.matches("[a-z0-9]{1,8}");
    }

    private static void codeIf(int code, boolean holds) {
        if (holds) {
            throw new Code(code);
        }
    }

    private static void require(boolean holds) {
        if (!holds) {
            throw new Malformed();
        }
    }

    private static Element one(byte[] bytes, int tag) {
        return elements(bytes, tag).get(0);
    }

    /** Just these elements, -1 standing for any tag. */
    private static List<Element> elements(byte[] bytes, int... tags) {
        List<Element> elements = elements(bytes);
        require(elements.size() == tags.length);
        for (int i = 0; i < tags.length; i++) {
            require(tags[i] == -1 || tags[i] == elements.get(i).tag);
        }
        return elements;
    }

    private static List<Element> elements(byte[] bytes) {
        if (bytes.length == 0) {
            return Collections.emptyList();
        }
        require(bytes.length >= 2);
        int length = bytes[1];
        int from = 2;
        if (length == (byte) 129) {
            require(bytes.length >= 3);
            length = bytes[2] & 255;
            from = 3;
        }
        require(length >= 0 && from + length <= bytes.length);
        List<Element> elements = new ArrayList<>();
        elements.add(new Element(bytes[0] & 255, Arrays.copyOfRange(bytes, from, from + length)));
        elements.addAll(elements(Arrays.copyOfRange(bytes, from + length, bytes.length)));
        return elements;
    }
}
