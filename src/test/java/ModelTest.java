import java.util.Arrays;
import java.util.Map;
import java.util.Random;
import java.util.TreeMap;

/** Many runs of calls, always the same ones, on the program and on the model: they answer alike. */
public final class ModelTest {
    private static final int RUNS = 4000;
    private static final int MOST_CALLS = 512;
    /** A message of 200 bytes with an answer of 300, and five entries of six pairs, take no more. */
    private static final int CALLS_OF_ONE_STEP = 150;

    private final Random random;
    private final Checks checks;
    private final Map<Integer, Integer> codes;
    private final Desk x;
    private final Model model = new Model();
    private int calls;
    private int mostEntries;

    private ModelTest(long seed, Checks checks, Map<Integer, Integer> codes) {
        random = new Random(seed);
        this.checks = checks;
        this.codes = codes;
        x = new Desk(checks);
    }

    public static void main(String[] args) {
        Checks checks = new Checks("ModelTest");
        Map<Integer, Integer> codes = new TreeMap<>();
        int mostEntries = 0;
        for (int seed = 1; seed <= RUNS && checks.allSame(); seed++) {
            ModelTest run = new ModelTest(seed, checks, codes);
            run.run("run " + seed);
            mostEntries = Math.max(mostEntries, run.mostEntries);
        }
        checks.same("every code was met", codes.keySet().toString(),
                "[-1, 0, 2, 4, 11, 16, 17, 20, 21, 32, 34, 49, 50, 53, 64, 66, 67, 68]");
        checks.same("all places were used", mostEntries, 16);
        checks.end();
    }

    private void run(String what) {
        boolean tame = random.nextInt(3) == 0;
        while (calls < MOST_CALLS - CALLS_OF_ONE_STEP && checks.allSame()) {
            byte[] message = Bytes.message(random.nextInt(8) == 0 ? random.nextInt(32768) : random.nextInt(128),
                    operation(tame));
            if (!tame && random.nextInt(8) == 0) {
                message = spoiled(message);
            }
            if (message.length > 200) {
                continue;
            }
            calls += (message.length + 7) / 8 + 1;
            int code = x.sendRaw(message);
            String told = what + ", " + Bytes.shown(message);
            checks.same(told, code, model.handle(message));
            codes.merge(code, 1, Integer::sum);
            compareAnswer(told);
            if (random.nextInt(tame ? 20 : 8) == 0) {
                compareEntries(told);
            }
            if (!model.open) {
                x.desk.connect();
                model.connect();
                calls++;
            }
        }
        compareEntries(what);
        checks.same(what + ", no call too many", calls <= MOST_CALLS, true);
    }

    private void compareAnswer(String told) {
        calls += 3 + model.answer.length / 7 + 1;
        checks.same(told + ", answer", Bytes.shown(x.answer()), Bytes.shown(model.answer));
        checks.same(told + ", signed", x.desk.signed(), model.signed);
        checks.same(told + ", open", x.desk.open(), model.open);
    }

    private void compareEntries(String told) {
        int size = model.entries.size();
        mostEntries = Math.max(mostEntries, size);
        checks.same(told + ", entries", x.desk.entries(), size);
        calls += 2;
        checks.same(told + ", no entry", x.desk.entry(size), -2);
        int from = random.nextInt(size + 1);
        for (int e = from; e < Math.min(size, from + 5); e++) {
            Model.Entry entry = model.entries.get(e);
            String due = entry.name.split(",").length + ": " + String.join(" ", entry.pairs);
            calls += 1 + 2 * entry.pairs.size();
            checks.same(told + ", entry " + e, x.shown(e), due);
        }
    }

    private byte[] operation(boolean tame) {
        if (!model.signed && random.nextInt(3) != 0) {
            return Bytes.sign(3, "a=r", "x");
        }
        int kind = random.nextInt(100);
        if (kind < (tame ? 97 : 40)) {
            return add(tame);
        }
        if (kind < 55) {
            return Bytes.modify(existing(), changes());
        }
        if (kind < 78) {
            return Bytes.search(random.nextInt(3) == 0 ? name() : random.nextBoolean() ? "" : existing(),
                    random.nextInt(16) == 0 ? 3 : random.nextInt(3), random.nextInt(4) - (random.nextInt(30) == 0 ? 1 : 0),
                    random.nextInt(3) == 0 ? 1 : 0, random.nextBoolean() ? Bytes.all() : filter(1), wanted());
        }
        if (kind < 90) {
            return Bytes.delete(random.nextInt(3) == 0 ? name() : existing());
        }
        if (kind < 98) {
            return Bytes.sign(random.nextInt(8) == 0 ? 2 : 3, pick("", "a=r", "a=r", name(), existing()),
                    pick("", "x", "x", value()));
        }
        return Bytes.leave();
    }

    private byte[] add(boolean tame) {
        String name = name();
        String[] own = name.split("[=,]");
        byte[][] attributes = new byte[random.nextInt(tame ? 2 : 5)][];
        for (int i = 0; i < attributes.length; i++) {
            attributes[i] = Bytes.attribute(type(), values());
        }
        if (own.length < 2 || random.nextInt(10) == 0) {
            return Bytes.add(name, attributes);
        }
        byte[] first = Bytes.attribute(own[0], own[1]);
        return Bytes.add(name, random.nextBoolean()
                ? new byte[][] {first, Bytes.join(attributes)} : new byte[][] {Bytes.join(attributes), first});
    }

    private byte[][] changes() {
        byte[][] changes = new byte[random.nextInt(random.nextInt(20) == 0 ? 14 : 4)][];
        for (int i = 0; i < changes.length; i++) {
            changes[i] = Bytes.change(random.nextInt(40) == 0 ? 3 : random.nextInt(3), type(), values());
        }
        return changes;
    }

    private byte[] filter(int depth) {
        int kind = random.nextInt(depth > 7 ? 4 : 7);
        switch (kind) {
            case 0:
                return Bytes.there(type());
            case 1:
                return Bytes.equal(type(), value());
            case 2:
                return Bytes.atLeast(pick("d", "e", "f", type()), value());
            case 3:
                return Bytes.atMost(pick("d", "e", "f", type()), value());
            case 4:
                return Bytes.not(filter(depth + 1));
            default:
                byte[][] inner = new byte[random.nextInt(random.nextInt(6) == 0 ? 9 : 4)][];
                for (int i = 0; i < inner.length; i++) {
                    inner[i] = filter(depth + 1);
                }
                return kind == 5 ? Bytes.all(inner) : Bytes.any(inner);
        }
    }

    private String[] wanted() {
        String[] wanted = new String[random.nextInt(3) == 0 ? random.nextInt(random.nextInt(9) == 0 ? 15 : 4) : 0];
        for (int i = 0; i < wanted.length; i++) {
            wanted[i] = type();
        }
        return wanted;
    }

    private String type() {
        return random.nextInt(16) == 0 ? pick("g", "", "ab", "A") : pick("a", "b", "c", "d", "e", "f");
    }

    private String value() {
        return random.nextInt(24) == 0 ? pick("", "123456789", "A", "a b")
                : pick("1", "2", "10", "r", "x", "z9", "12345678", "abcdefgh", "abcdefg");
    }

    private String[] values() {
        String[] values = new String[random.nextInt(random.nextInt(20) == 0 ? 27 : 3)];
        for (int i = 0; i < values.length; i++) {
            values[i] = values.length > 6 ? String.valueOf(i) : value();
        }
        return values;
    }

    private String existing() {
        int size = model.entries.size();
        return size == 0 || random.nextInt(12) == 0 ? name() : model.entries.get(random.nextInt(size)).name;
    }

    private String name() {
        String part = type() + "=" + value();
        int size = model.entries.size();
        switch (random.nextInt(8)) {
            case 0:
                return part;
            case 1:
                return part + "," + type() + "=" + value();
            case 2:
                return pick("", ",", part + ",", part + ",,a=r", "a=1,b=2,c=3,d=4,e=5", part + "," + part + ",a=r");
            default:
                return size == 0 ? part : part + "," + model.entries.get(random.nextInt(size)).name;
        }
    }

    private byte[] spoiled(byte[] message) {
        int place = random.nextInt(message.length);
        byte[] before = Arrays.copyOf(message, place);
        byte[] behind = Arrays.copyOfRange(message, place + 1, message.length);
        switch (random.nextInt(4)) {
            case 0:
                return Bytes.join(before, behind);
            case 1:
                return Bytes.join(before, Bytes.of(random.nextInt(256), message[place]), behind);
            case 2:
                return Bytes.join(before, Bytes.of(message[place] + random.nextInt(3) - 1), behind);
            default:
                return Bytes.join(before, Bytes.of(random.nextInt(256)), behind);
        }
    }

    private String pick(String... texts) {
        return texts[random.nextInt(texts.length)];
    }
}
