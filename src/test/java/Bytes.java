import java.io.ByteArrayOutputStream;
import java.nio.charset.StandardCharsets;

/** Makes the elements and messages that the tests send and expect. */
final class Bytes {
    private Bytes() {
    }

    static byte[] of(int... letters) {
        byte[] bytes = new byte[letters.length];
        for (int i = 0; i < letters.length; i++) {
            bytes[i] = (byte) letters[i];
        }
        return bytes;
    }

    static byte[] join(byte[]... pieces) {
        ByteArrayOutputStream out = new ByteArrayOutputStream();
        for (byte[] piece : pieces) {
            out.writeBytes(piece);
        }
        return out.toByteArray();
    }

    static byte[] latin(String text) {
        return text.getBytes(StandardCharsets.ISO_8859_1);
    }

    /** An element with the shortest length that tells it. */
    static byte[] element(int tag, byte[]... contents) {
        byte[] inside = join(contents);
        return inside.length < 128
                ? join(of(tag, inside.length), inside)
                : join(of(tag, 129, inside.length), inside);
    }

    /** An element with a length of two bytes, however short it is. */
    static byte[] longElement(int tag, byte[]... contents) {
        byte[] inside = join(contents);
        return join(of(tag, 129, inside.length), inside);
    }

    static byte[] number(int number) {
        return number >= -128 && number < 128 ? of(2, 1, number) : of(2, 2, number >> 8, number);
    }

    static byte[] choice(int number) {
        return of(10, 1, number);
    }

    static byte[] flag(int number) {
        return of(1, 1, number);
    }

    static byte[] text(String text) {
        return element(4, latin(text));
    }

    static byte[] texts(int tag, String... texts) {
        byte[][] elements = new byte[texts.length][];
        for (int i = 0; i < texts.length; i++) {
            elements[i] = text(texts[i]);
        }
        return element(tag, elements);
    }

    static byte[] message(int id, byte[] operation) {
        return element(48, number(id), operation);
    }

    static byte[] sign(int version, String name, String password) {
        return element(96, number(version), text(name), element(128, latin(password)));
    }

    static byte[] leave() {
        return element(66);
    }

    static byte[] delete(String name) {
        return element(74, latin(name));
    }

    static byte[] attribute(String type, String... values) {
        return element(48, text(type), texts(49, values));
    }

    static byte[] add(String name, byte[]... attributes) {
        return element(104, text(name), element(48, attributes));
    }

    static byte[] change(int kind, String type, String... values) {
        return element(48, choice(kind), attribute(type, values));
    }

    static byte[] modify(String name, byte[]... changes) {
        return element(102, text(name), element(48, changes));
    }

    static byte[] search(String base, int scope, int limit, int typesAlone, byte[] filter, String... wanted) {
        return element(99, text(base), choice(scope), choice(0), number(limit), number(0), flag(typesAlone),
                filter, texts(48, wanted));
    }

    static byte[] all(byte[]... filters) {
        return element(160, filters);
    }

    static byte[] any(byte[]... filters) {
        return element(161, filters);
    }

    static byte[] not(byte[] filter) {
        return element(162, filter);
    }

    static byte[] equal(String type, String value) {
        return element(163, text(type), text(value));
    }

    static byte[] atLeast(String type, String value) {
        return element(165, text(type), text(value));
    }

    static byte[] atMost(String type, String value) {
        return element(166, text(type), text(value));
    }

    static byte[] there(String type) {
        return element(135, latin(type));
    }

    /** What comes last in an answer. */
    static byte[] last(int id, int tag, int code, String nearest) {
        return message(id, element(tag, choice(code), text(nearest), text("")));
    }

    /** One answered entry. */
    static byte[] found(int id, String name, byte[]... attributes) {
        return message(id, element(100, text(name), element(48, attributes)));
    }

    static String shown(byte[] bytes) {
        StringBuilder shown = new StringBuilder();
        for (byte one : bytes) {
            shown.append(shown.length() == 0 ? "" : " ").append(one & 255);
        }
        return shown.toString();
    }
}
