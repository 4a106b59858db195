import java.io.ByteArrayOutputStream;
import java.nio.charset.StandardCharsets;

/** What the tests share: a count of wrong answers, and bytes written by hand. */
final class Bench {

    private static int wrong = 0;

    private Bench() {
    }

    static void due(String call, long got, long want) {
        if (got != want) {
            wrong++;
            System.out.println(call + " answered " + got + ", due is " + want);
        }
    }

    static void due(String call, boolean got, boolean want) {
        due(call, got ? 1 : 0, want ? 1 : 0);
    }

    static void end() {
        System.out.println(wrong == 0 ? "all answers are as due" : wrong + " answers are wrong");
        System.exit(wrong == 0 ? 0 : 1);
    }

    /** Bytes of parts: an Integer is a byte, a String its characters, an int[] or byte[] its bytes. */
    static byte[] bytes(Object... parts) {
        ByteArrayOutputStream all = new ByteArrayOutputStream();
        for (Object part : parts) {
            if (part instanceof Integer) {
                all.write((Integer) part);
            } else if (part instanceof String) {
                all.writeBytes(((String) part).getBytes(StandardCharsets.ISO_8859_1));
            } else if (part instanceof int[]) {
                for (int v : (int[]) part) {
                    all.write(v);
                }
            } else {
                all.writeBytes((byte[]) part);
            }
        }
        return all.toByteArray();
    }

    static byte[] four(int v) {
        return new byte[] {(byte) (v >>> 24), (byte) (v >>> 16), (byte) (v >>> 8), (byte) v};
    }

    /** The tape becomes these bytes. */
    static int lay(PasskeyHouse x, Object... parts) {
        x.wipe();
        int size = 0;
        for (byte b : bytes(parts)) {
            size = x.feed(b, 1);
        }
        return size;
    }

    /** A message to a key: the status, or what command() answers when there is none. */
    static int send(PasskeyHouse x, int key, Object... parts) {
        lay(x, parts);
        int n = x.command(key, PasskeyHouse.NONE);
        return n > 0 ? x.answer(key, 0) : n;
    }

    static int answerFour(PasskeyHouse x, int key, int at) {
        int v = 0;
        for (int i = 0; i < 4; i++) {
            v = v << 8 | x.answer(key, at + i);
        }
        return v;
    }

    /** Whether the latest answer of a key is these bytes. */
    static boolean answers(PasskeyHouse x, int key, Object... parts) {
        byte[] want = bytes(parts);
        for (int i = 0; i < want.length; i++) {
            if (x.answer(key, i) != (want[i] & 255)) {
                return false;
            }
        }
        return x.answer(key, want.length) == PasskeyHouse.NONE;
    }

    static boolean tapeIs(PasskeyHouse x, Object... parts) {
        byte[] want = bytes(parts);
        for (int i = 0; i < want.length; i++) {
            if (x.at(i) != (want[i] & 255)) {
                return false;
            }
        }
        return x.at(want.length) == PasskeyHouse.NONE;
    }
}
