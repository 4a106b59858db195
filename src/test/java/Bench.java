import java.io.ByteArrayOutputStream;
import java.lang.reflect.Method;
import java.nio.charset.StandardCharsets;
import java.util.Arrays;
import java.util.Comparator;
import java.util.List;

/** What the tests share: a count of wrong answers, messages written by hand, and a look at a key's flash. */
final class Bench {

    private static int wrong = 0;
    private static String sentence = "";

    private Bench() {
    }

    static void due(String call, long got, long want) {
        if (got != want) {
            wrong++;
            System.out.println(sentence + call + " answered " + got + ", due is " + want);
        }
    }

    static void due(String call, boolean got, boolean want) {
        due(call, got ? 1 : 0, want ? 1 : 0);
    }

    static void holds(String what, boolean so) {
        due(what, so, true);
    }

    /** Runs every test of a class that names a sentence of the document, and ends. */
    static void run(Class<?> tests) {
        Method[] all = tests.getDeclaredMethods();
        Arrays.sort(all, Comparator.comparing(Method::getName));
        int many = 0;
        for (Method m : all) {
            Sentence named = m.getAnnotation(Sentence.class);
            if (named != null) {
                many++;
                sentence = named.value() + " | ";
                call(m);
            }
        }
        sentence = "";
        System.out.println(many + " sentences");
        holds("there are tests", many > 0);
        end();
    }

    private static void call(Method m) {
        try {
            m.setAccessible(true);
            m.invoke(null);
        } catch (ReflectiveOperationException e) {
            holds(m.getName() + " threw " + e.getCause(), false);
        }
    }

    static void end() {
        System.out.println(wrong == 0 ? "all answers are as due" : wrong + " answers are wrong");
        System.exit(wrong == 0 ? 0 : 1);
    }

    /** A map whose pairs are written in the order in which they stand here. */
    record Pairs(Object[] parts) {
    }

    /** Bytes that stand for an item as they are. */
    record Raw(byte[] bytes) {
    }

    static Pairs map(Object... parts) {
        return new Pairs(parts);
    }

    /** A map with pairs more behind those of another. */
    static Pairs more(Pairs first, Object... parts) {
        Object[] all = Arrays.copyOf(first.parts(), first.parts().length + parts.length);
        System.arraycopy(parts, 0, all, first.parts().length, parts.length);
        return new Pairs(all);
    }

    /** A map in which one value is another one; null takes the pair away. */
    static Pairs with(Pairs map, Object key, Object value) {
        java.util.ArrayList<Object> all = new java.util.ArrayList<>();
        for (int i = 0; i < map.parts().length; i += 2) {
            boolean isIt = map.parts()[i].equals(key);
            if (!isIt || value != null) {
                all.add(map.parts()[i]);
                all.add(isIt ? value : map.parts()[i + 1]);
            }
        }
        return new Pairs(all.toArray());
    }

    /** The shortest CBOR of an Integer, Boolean, String, byte[], List, Pairs, or Raw. */
    static byte[] cbor(Object v) {
        ByteArrayOutputStream out = new ByteArrayOutputStream();
        if (v instanceof Integer) {
            int n = (Integer) v;
            head(out, n < 0 ? 1 : 0, n < 0 ? -1 - n : n);
        } else if (v instanceof Boolean) {
            head(out, 7, (Boolean) v ? 21 : 20);
        } else if (v instanceof String) {
            byte[] text = ((String) v).getBytes(StandardCharsets.ISO_8859_1);
            head(out, 3, text.length);
            out.writeBytes(text);
        } else if (v instanceof byte[]) {
            head(out, 2, ((byte[]) v).length);
            out.writeBytes((byte[]) v);
        } else if (v instanceof List) {
            head(out, 4, ((List<?>) v).size());
            for (Object item : (List<?>) v) {
                out.writeBytes(cbor(item));
            }
        } else if (v instanceof Pairs) {
            Object[] parts = ((Pairs) v).parts();
            head(out, 5, parts.length / 2);
            for (Object item : parts) {
                out.writeBytes(cbor(item));
            }
        } else {
            out.writeBytes(((Raw) v).bytes());
        }
        return out.toByteArray();
    }

    private static void head(ByteArrayOutputStream out, int sort, int n) {
        if (n < 24) {
            out.write(sort << 5 | n);
        } else if (n < 256) {
            out.write(sort << 5 | 24);
            out.write(n);
        } else if (n < 65536) {
            out.write(sort << 5 | 25);
            out.write(n >> 8);
            out.write(n);
        } else {
            out.write(sort << 5 | 26);
            out.writeBytes(four(n));
        }
    }

    /** Bytes of parts: an Integer is a byte, a String its characters, a byte[] its bytes, Pairs its CBOR. */
    static byte[] bytes(Object... parts) {
        ByteArrayOutputStream all = new ByteArrayOutputStream();
        for (Object part : parts) {
            if (part instanceof Integer) {
                all.write((Integer) part);
            } else if (part instanceof String) {
                all.writeBytes(((String) part).getBytes(StandardCharsets.ISO_8859_1));
            } else if (part instanceof Pairs) {
                all.writeBytes(cbor(part));
            } else {
                all.writeBytes((byte[]) part);
            }
        }
        return all.toByteArray();
    }

    /** Bytes from hexadecimal digits; blanks are passed over. */
    static byte[] hex(String digits) {
        String all = digits.replace(" ", "");
        byte[] out = new byte[all.length() / 2];
        for (int i = 0; i < out.length; i++) {
            out[i] = (byte) Integer.parseInt(all.substring(2 * i, 2 * i + 2), 16);
        }
        return out;
    }

    static byte[] four(int v) {
        return new byte[] {(byte) (v >>> 24), (byte) (v >>> 16), (byte) (v >>> 8), (byte) v};
    }

    static String text(int size) {
        return "n".repeat(size);
    }

    /** A house with a key. */
    static PasskeyHouse house() {
        PasskeyHouse x = new PasskeyHouse();
        x.key();
        return x;
    }

    /** Power of key 0 goes and comes. */
    static void powerOver(PasskeyHouse x) {
        due("goes", x.power(0, false), false);
        due("comes", x.power(0, true), true);
    }

    /** The tape becomes these bytes. */
    static int lay(PasskeyHouse x, Object... parts) {
        x.wipe();
        byte[] all = bytes(parts);
        for (int i = 0; i < all.length; i += 8) {
            int n = Math.min(8, all.length - i);
            long w = 0;
            for (int j = 0; j < n; j++) {
                w = w << 8 | (all[i + j] & 255);
            }
            x.feed(w, n);
        }
        return all.length;
    }

    /** A message to a key: the status, or SILENT. */
    static int send(PasskeyHouse x, int key, Object... parts) {
        lay(x, parts);
        int n = x.command(key, PasskeyHouse.NONE);
        return n > 0 ? x.answer(key, 0) : n;
    }

    static int answerFour(PasskeyHouse x, int key, int at) {
        int v = 0;
        for (int i = 0; i < 4; i++) {
            v = v << 8 | x.answer(key, at + i);
        }
        return v;
    }

    /** Whether the latest answer of a key is these bytes. */
    static boolean answers(PasskeyHouse x, int key, Object... parts) {
        byte[] want = bytes(parts);
        for (int i = 0; i < want.length; i++) {
            if (x.answer(key, i) != (want[i] & 255)) {
                return false;
            }
        }
        return x.answer(key, want.length) == PasskeyHouse.NONE;
    }

    static boolean tapeIs(PasskeyHouse x, Object... parts) {
        byte[] want = bytes(parts);
        for (int i = 0; i < want.length; i++) {
            if (x.at(i) != (want[i] & 255)) {
                return false;
            }
        }
        return x.at(want.length) == PasskeyHouse.NONE;
    }

    static Object entry(int id) {
        return map("id", four(id), "type", "public-key");
    }

    static Pairs makeMap(int hash, String name, String user) {
        return map(1, four(hash), 2, map("id", name), 3, map("id", bytes(user)),
            4, List.of(map("alg", -7, "type", "public-key")));
    }

    static Pairs signMap(int hash, String name) {
        return map(1, name, 2, four(hash));
    }

    /** Makes a credential that the key stores; its id. */
    static int store(PasskeyHouse x, int key, String name, String user) {
        x.press(key);
        due("store", send(x, key, 1, more(makeMap(1, name, user), 7, map("rk", true))), 0);
        return answerFour(x, key, 21);
    }

    /** Makes a credential that is in its id alone; the id. */
    static int wrap(PasskeyHouse x, int key, String name) {
        x.press(key);
        due("wrap", send(x, key, 1, makeMap(1, name, "u")), 0);
        return answerFour(x, key, 21);
    }

    /** Signs without a press by an id; the status. */
    static int signBy(PasskeyHouse x, int key, String name, int id) {
        return send(x, key, 2, map(1, name, 2, four(1), 3, List.of(entry(id)), 5, map("up", false)));
    }

    static void setPin(PasskeyHouse x, int hand, int key, String pin) {
        lay(x, pin);
        x.pin(hand, pin.length());
        due("setPin", x.setPin(hand, key), 0);
    }

    static int unlock(PasskeyHouse x, int hand, int key, String pin) {
        lay(x, pin);
        x.pin(hand, pin.length());
        return x.unlock(hand, key);
    }

    static int[] check(int... bytes) {
        int c = 0;
        for (int b : bytes) {
            c = (31 * c + b + 7) % 65536;
        }
        c = c == 65535 ? 0 : c;
        return new int[] {c / 256, c % 256};
    }

    /** Whether a record of a kind with these bytes lies at a place of an area of a key's flash. */
    static boolean isRecord(PasskeyHouse x, int key, int area, int at, int kind, byte[] body) {
        int[] all = new int[body.length + 2];
        all[0] = kind;
        all[1] = body.length;
        for (int i = 0; i < body.length; i++) {
            all[2 + i] = body[i] & 255;
        }
        boolean same = true;
        for (int i = 0; i < all.length; i++) {
            same = same && x.flash(key, area * 256 + at + i) == all[i];
        }
        int[] check = check(all);
        int end = area * 256 + at + all.length;
        return same && x.flash(key, end) == check[0] && x.flash(key, end + 1) == check[1];
    }

    static boolean isHeader(PasskeyHouse x, int key, int area, int generation) {
        int high = generation / 256;
        int low = generation % 256;
        int[] check = check(high, low);
        int at = area * 256;
        return x.flash(key, at) == high && x.flash(key, at + 1) == low && x.flash(key, at + 2) == check[0]
            && x.flash(key, at + 3) == check[1];
    }

    static boolean isErased(PasskeyHouse x, int key, int from, int until) {
        for (int i = from; i < until; i++) {
            if (x.flash(key, i) != 255) {
                return false;
            }
        }
        return true;
    }
}
