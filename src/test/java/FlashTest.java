import java.util.ArrayList;
import java.util.List;

/** Promises 9, 11, 12, 15, 16: records, moves, waking, and power that fails at any act. */
public final class FlashTest {

    public static void main(String[] args) {
        moving();
        movingBack();
        movingAll();
        failingInMove();
        failingInCredential();
        failingInReset();
        fullest();
        pagesInOrder();
        exactEnd();
        checkOfErased();
        headerOfErased();
        Bench.end();
    }

    /** A key whose records end so near to the end of the area that one COUNT more moves them. */
    private static PasskeyHouse nearlyFull(int[] id) {
        PasskeyHouse x = new PasskeyHouse();
        x.key();
        id[0] = Bench.wrap(x, 0, "a");
        Bench.due("sign", Bench.signBy(x, 0, "a", id[0]), 0);
        again(x, 19);
        return x;
    }

    /** The message on the tape, which signs, is sent so many times more. */
    private static void again(PasskeyHouse x, int times) {
        for (int i = 0; i < times; i++) {
            Bench.holds("sign", x.command(0, -1) > 1);
        }
    }

    private static void moving() {
        int[] id = new int[1];
        PasskeyHouse x = nearlyFull(id);
        Bench.due("end", x.told(0, 7), 252);
        Bench.due("area", x.told(0, 6), 0);
        Bench.due("acts", x.told(0, 1), 240);
        Bench.due("sign", Bench.signBy(x, 0, "a", id[0]), 0);
        Bench.due("area", x.told(0, 6), 1);
        Bench.due("generation", x.told(0, 5), 2);
        Bench.due("end", x.told(0, 7), 4 + 8 + 12 + 12);
        Bench.due("acts", x.told(0, 1), 240 + 4 + 8 + 12 + 4 + 12);
        Bench.holds("header", Bench.isHeader(x, 0, 1, 2));
        Bench.holds("MASTER", Bench.isRecord(x, 0, 1, 4, 1, Bench.four(1)));
        Bench.holds("COUNT 20", Bench.isRecord(x, 0, 1, 12, 4, Bench.bytes(Bench.four(0), Bench.four(20))));
        Bench.holds("COUNT 21", Bench.isRecord(x, 0, 1, 24, 4, Bench.bytes(Bench.four(0), Bench.four(21))));
        Bench.holds("erased behind", Bench.isErased(x, 0, 256 + 36, 512));
        Bench.holds("the other stays", Bench.isHeader(x, 0, 0, 1));
    }

    private static void movingBack() {
        int[] id = new int[1];
        PasskeyHouse x = nearlyFull(id);
        again(x, 1);
        x.power(0, false);
        x.power(0, true);
        Bench.due("it wakes so", x.told(0, 6), 1);
        Bench.due("count", x.told(0, 11), 21);
        Bench.due("end", x.told(0, 7), 36);
        again(x, 18);
        Bench.due("end", x.told(0, 7), 252);
        Bench.due("sign", Bench.signBy(x, 0, "a", id[0]), 0);
        Bench.due("area", x.told(0, 6), 0);
        Bench.due("generation", x.told(0, 5), 3);
        Bench.holds("what was there is erased", Bench.isErased(x, 0, 36, 256));
        x.power(0, false);
        x.power(0, true);
        Bench.due("count", x.told(0, 11), 40);
    }

    private static void movingAll() {
        PasskeyHouse x = new PasskeyHouse();
        x.key();
        int first = Bench.store(x, 0, "a", "12345678");
        int second = Bench.store(x, 0, "b", "u");
        int wrapped = Bench.wrap(x, 0, "a");
        Bench.setPin(x, 0, 0, "1234");
        Bench.due("wrong", Bench.unlock(x, 0, 0, "4321"), 49);
        Bench.signBy(x, 0, "a", wrapped);
        for (int i = 0; x.told(0, 5) == 1 && i < 30; i++) {
            Bench.due("sign", Bench.signBy(x, 0, "b", second), 0);
        }
        Bench.due("area", x.told(0, 6), 1);
        int count = x.credential(0, 1, 2);
        int at = 256;
        Bench.holds("header", Bench.isHeader(x, 0, 1, 2));
        Bench.holds("MASTER", Bench.isRecord(x, 0, 1, 4, 1, Bench.four(1)));
        Bench.due("PIN", x.flash(0, at + 12), 2);
        Bench.holds("TRIES", Bench.isRecord(x, 0, 1, 20, 3, Bench.bytes(7)));
        Bench.holds("own COUNT", Bench.isRecord(x, 0, 1, 25, 4, Bench.bytes(Bench.four(0), Bench.four(1))));
        Bench.due("CREDENTIAL", x.flash(0, at + 37), 5);
        Bench.due("its length", x.flash(0, at + 38), 20);
        Bench.due("its id", x.flash(0, at + 42), first);
        Bench.due("no COUNT of 0, CREDENTIAL", x.flash(0, at + 61), 5);
        Bench.due("its length", x.flash(0, at + 62), 13);
        Bench.holds("COUNT", Bench.isRecord(x, 0, 1, 78, 4, Bench.bytes(Bench.four(second), Bench.four(count - 1))));
        Bench.holds("COUNT", Bench.isRecord(x, 0, 1, 90, 4, Bench.bytes(Bench.four(second), Bench.four(count))));
        Bench.due("end", x.told(0, 7), 102);
        x.power(0, false);
        x.power(0, true);
        int[] told = {2, 1, 102, 2, 7, 1, 1};
        for (int i = 0; i < told.length; i++) {
            Bench.due("told " + (5 + i), x.told(0, 5 + i), told[i]);
        }
        Bench.due("first", x.credential(0, 0, 0), first);
        Bench.due("second", x.credential(0, 1, 0), second);
        Bench.due("its count", x.credential(0, 1, 2), count);
        Bench.due("sign with the first", Bench.signBy(x, 0, "a", first), 0);
    }

    /** What the records of an area say, read by the test's own eyes: COUNTs of the key, and where records end. */
    private static int[] read(PasskeyHouse x, int area) {
        int at = 4;
        int count = 0;
        while (at + 4 <= 256) {
            int kind = x.flash(0, area * 256 + at);
            int n = x.flash(0, area * 256 + at + 1);
            int[] lengths = {-1, 4, 4, 1, 8};
            if (!(kind >= 1 && kind <= 4 && n == lengths[kind]) && !(kind == 5 && n >= 13 && n <= 20) || at + n + 4 > 256) {
                break;
            }
            int[] all = new int[n + 2];
            for (int i = 0; i < all.length; i++) {
                all[i] = x.flash(0, area * 256 + at + i);
            }
            int[] check = Bench.check(all);
            int end = area * 256 + at + n + 2;
            if (x.flash(0, end) != check[0] || x.flash(0, end + 1) != check[1]) {
                break;
            }
            if (kind == 4 && all[2] + all[3] + all[4] + all[5] == 0) {
                count = all[8] * 256 + all[9];
            }
            at += n + 4;
        }
        return new int[] {count, at};
    }

    private static void failingInMove() {
        int whole = 4 + 8 + 12 + 4 + 12;
        for (int acts = 0; acts <= whole; acts++) {
            int[] id = new int[1];
            PasskeyHouse x = nearlyFull(id);
            x.cut(0, acts);
            int terms = x.terms();
            int status = Bench.signBy(x, 0, "a", id[0]);
            Bench.due("status with " + acts, status, acts < whole ? -3 : 0);
            Bench.due("acts", x.told(0, 1), 240 + acts);
            Bench.due("a term only when all is written", x.terms(), acts < whole ? terms : terms + 1);
            if (acts == whole) {
                continue;
            }
            int area = Bench.isHeader(x, 0, 1, 2) ? 1 : 0;
            Bench.due("header before the last bytes", area, acts < 28 ? 0 : 1);
            int[] said = read(x, area);
            boolean clean = Bench.isErased(x, 0, area * 256 + said[1], area * 256 + 256);
            Bench.due("wakes", x.power(0, true), true);
            Bench.due("count", x.told(0, 11), said[0]);
            Bench.due("generation", x.told(0, 5), (area == 1 ? 2 : 1) + (clean ? 0 : 1));
            Bench.due("area", x.told(0, 6), clean ? area : 1 - area);
            Bench.due("acts of waking", x.told(0, 1), 240 + acts + (clean ? 0 : 4 + 8 + 12 + 4));
            Bench.due("sign", Bench.signBy(x, 0, "a", id[0]), 0);
            Bench.due("count", x.told(0, 11), said[0] + 1);
        }
    }

    private static void failingInCredential() {
        int whole = 4 + 12 + 4;
        for (int acts = 0; acts <= whole; acts++) {
            PasskeyHouse x = new PasskeyHouse();
            x.key();
            int id = Bench.wrap(x, 0, "a");
            x.press(0);
            x.cut(0, acts);
            int terms = x.terms();
            int status = Bench.send(x, 0, 1, Bench.more(Bench.makeMap(1, "b", "user"), 7, Bench.map("rk", true)));
            Bench.due("status with " + acts, status, acts < whole ? -3 : 0);
            Bench.due("HASH and FRESH at least", x.terms(), terms + (acts < whole ? 2 : 4));
            Bench.due("the press is taken", x.told(0, 2), 0);
            Bench.due("no answer", x.answer(0, 0), acts < whole ? -1 : 0);
            if (acts == whole) {
                continue;
            }
            Bench.due("answered", x.told(0, 4), 1);
            int[] said = read(x, 0);
            boolean clean = Bench.isErased(x, 0, said[1], 256);
            x.cut(0, -1);
            Bench.due("wakes", x.power(0, true), true);
            Bench.due("credentials", x.told(0, 8), said[1] > 12 ? 1 : 0);
            Bench.due("moved if a byte is there", x.told(0, 6), clean ? 0 : 1);
            Bench.due("end", x.told(0, 7), said[1]);
            Bench.due("the wrap", Bench.signBy(x, 0, "a", id), 0);
        }
    }

    private static void failingInReset() {
        for (int acts = 0; acts <= 16; acts++) {
            PasskeyHouse x = new PasskeyHouse();
            x.key();
            Bench.store(x, 0, "a", "u");
            x.power(0, false);
            x.power(0, true);
            x.press(0);
            x.cut(0, acts);
            int terms = x.terms();
            Bench.due("RESET with " + acts, Bench.send(x, 0, 7), acts < 16 ? -3 : 0);
            Bench.due("a FRESH term", x.terms(), terms + 1);
            x.cut(0, -1);
            x.power(0, true);
            boolean done = Bench.isHeader(x, 0, 1, 2);
            Bench.due("credentials", x.told(0, 8), done ? 0 : 1);
            Bench.due("area", x.told(0, 6), done ? 1 : 0);
            Bench.due("header is last", done, acts >= 16);
        }
    }

    /** Pages are erased from the first on, each as a whole, and none before its act. */
    private static void pagesInOrder() {
        for (int acts = 0; acts <= 4; acts++) {
            int[] id = new int[1];
            PasskeyHouse was = nearlyFull(id);
            again(was, 1);
            PasskeyHouse x = nearlyFull(id);
            again(x, 19);
            x.cut(0, acts);
            Bench.due("moves back", Bench.signBy(x, 0, "a", id[0]), -3);
            for (int i = 0; i < 256; i++) {
                Bench.due("byte " + i + " after " + acts, x.flash(0, i), i < 64 * acts ? 255 : was.flash(0, i));
            }
            Bench.due("wakes", x.power(0, true), true);
            Bench.due("in the area that was in use", x.told(0, 6), 1);
            Bench.due("count", x.told(0, 11), 39);
        }
    }

    /** A record that ends with the area needs no move. */
    private static void exactEnd() {
        PasskeyHouse x = new PasskeyHouse();
        x.key();
        int id = Bench.store(x, 0, "a", "user");
        Bench.setPin(x, 0, 0, "1234");
        for (int i = 0; i < 18; i++) {
            Bench.due("sign", Bench.signBy(x, 0, "a", id), 0);
        }
        Bench.due("end", x.told(0, 7), 256);
        Bench.due("generation", x.told(0, 5), 1);
        x.power(0, false);
        x.power(0, true);
        Bench.due("end", x.told(0, 7), 256);
        Bench.due("count", x.credential(0, 0, 2), 18);
        Bench.due("generation", x.told(0, 5), 1);
        Bench.due("sign", Bench.signBy(x, 0, "a", id), 0);
        Bench.due("generation", x.told(0, 5), 2);
        Bench.due("end", x.told(0, 7), 4 + 8 + 8 + 20 + 12 + 12);
    }

    /** A user by which the check of the CREDENTIAL would be 65535, which is written as 0. */
    private static void checkOfErased() {
        for (int v = 0; v < 1 << 24; v++) {
            int[] all = {5, 15, 0, 0, 0, 3, 0, 0, 0, 2, 0, 0, 0, 3, v >> 16, v >> 8 & 255, v & 255};
            int c = 0;
            for (int b : all) {
                c = (31 * c + b + 7) % 65536;
            }
            if (c == 65535) {
                whole(Bench.bytes(v >> 16, v >> 8, v));
                return;
            }
        }
        Bench.holds("there is such a user", false);
    }

    private static void whole(byte[] user) {
        PasskeyHouse x = new PasskeyHouse();
        x.key();
        x.press(0);
        Bench.Pairs map = Bench.with(Bench.makeMap(1, "a", "u"), 3, Bench.map("id", user));
        Bench.due("MAKE", Bench.send(x, 0, 1, Bench.more(map, 7, Bench.map("rk", true))), 0);
        Bench.due("end", x.told(0, 7), 12 + 19);
        Bench.due("check", x.flash(0, 29), 0);
        Bench.due("check", x.flash(0, 30), 0);
        x.power(0, false);
        x.power(0, true);
        Bench.due("it stands", x.told(0, 8), 1);
    }

    /** The check of generation 31 ends with 255: its header is whole before the last byte is written. */
    private static void headerOfErased() {
        PasskeyHouse x = new PasskeyHouse();
        x.key();
        Bench.lay(x, 7);
        for (int generation = 2; generation <= 31; generation++) {
            x.power(0, false);
            x.power(0, true);
            x.press(0);
            if (generation == 31) {
                x.cut(0, 15);
            }
            Bench.due("RESET to " + generation, x.command(0, 1), generation < 31 ? 1 : -3);
        }
        Bench.due("wakes", x.power(0, true), true);
        Bench.due("generation", x.told(0, 5), 31);
        Bench.due("area", x.told(0, 6), 0);
    }

    /** All that there is room for, with every count and fewer tries: each record finds its place still. */
    private static void fullest() {
        PasskeyHouse x = new PasskeyHouse();
        x.key();
        int wrapped = Bench.wrap(x, 0, "w");
        List<Integer> ids = new ArrayList<>();
        String[] users = {"12345678", "12345678", "12345678", "u", "u", "u"};
        for (int i = 0; i < users.length; i++) {
            ids.add(Bench.store(x, 0, "p" + i, users[i]));
        }
        Bench.setPin(x, 0, 0, "1234");
        Bench.due("wrong", Bench.unlock(x, 0, 0, "4321"), 49);
        Bench.due("own", Bench.signBy(x, 0, "w", wrapped), 0);
        for (int round = 1; round <= 4; round++) {
            for (int i = 0; i < users.length; i++) {
                Bench.due("sign", Bench.signBy(x, 0, "p" + i, ids.get(i)), 0);
                Bench.due("count", x.credential(0, i, 2), round);
            }
        }
        x.power(0, false);
        Bench.due("wakes", x.power(0, true), true);
        for (int i = 0; i < users.length; i++) {
            Bench.due("count", x.credential(0, i, 2), 4);
        }
        Bench.due("tries", x.told(0, 9), 7);
        Bench.due("own count", x.told(0, 11), 1);
        Bench.due("right", Bench.unlock(x, 0, 0, "1234"), 0);
        Bench.due("wrong", Bench.unlock(x, 0, 0, "4321"), 49);
        for (int i = 0; i < 3; i++) {
            Bench.lay(x, "p0");
            x.page(0, 2);
            Bench.due("unlock", Bench.unlock(x, 0, 0, "1234"), 0);
            Bench.lay(x, "p0");
            x.press(0);
            long user = 0x3132333435363738L;
            Bench.due("in place of the first", x.create(0, 0, 5, -1, user, 8, 2, 3), 0);
            Bench.due("six still", x.told(0, 8), 6);
            Bench.due("its count", x.credential(0, 0, 2), 0);
            Bench.due("the others", x.credential(0, 5, 2), 4);
        }
    }
}
