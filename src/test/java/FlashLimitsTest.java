import java.util.List;

/** == FLASH: the boundary cases of areas, records, moves, room and waking; seen by promises 8, 9, 11, 12, 15, 16, 17. */
public final class FlashLimitsTest {

    private static final int WHOLE = 20;

    public static void main(String[] args) {
        Bench.run(FlashLimitsTest.class);
    }

    private static void told(PasskeyHouse x, String what, int... want) {
        for (int i = 0; i < want.length; i++) {
            Bench.due(what + ": told " + (5 + i), x.told(0, 5 + i), want[i]);
        }
    }

    private static Bench.Pairs stored(String name, byte[] user) {
        return Bench.map(1, Bench.four(1), 2, Bench.map("id", name), 3, Bench.map("id", user),
            4, List.of(Bench.map("alg", -7, "type", "public-key")), 7, Bench.map("rk", true));
    }

    private static int store(PasskeyHouse x, String name, byte[] user) {
        x.press(0);
        return Bench.send(x, 0, 1, stored(name, user));
    }

    // ---- acts, and power that fails

    @Sentence("FLASH (promises 11, 15): so many acts are done still, the next one is not, and the key is OFF")
    static void actsBeforePowerFails() {
        PasskeyHouse whole = Bench.house();
        Bench.due("MAKE", store(whole, "a", Bench.bytes("user")), 0);
        for (int acts = 0; acts <= WHOLE + 1; acts++) {
            PasskeyHouse x = Bench.house();
            Bench.due("cut", x.cut(0, acts), true);
            Bench.due("MAKE with " + acts, store(x, "a", Bench.bytes("user")), acts < WHOLE ? -3 : 0);
            int done = Math.min(acts, WHOLE);
            Bench.due("acts with " + acts, x.told(0, 1), done);
            Bench.due("on with " + acts, x.told(0, 0), acts < WHOLE ? 0 : 1);
            for (int i = 0; i < 40; i++) {
                Bench.due("byte " + i + " with " + acts, x.flash(0, i), i < 12 + done ? whole.flash(0, i) : 255);
            }
        }
    }

    @Sentence("FLASH (promise 11): when so many acts are done and there is no next one, the key stays on until there is one")
    static void allActsDone() {
        PasskeyHouse x = Bench.house();
        x.cut(0, WHOLE);
        Bench.due("MAKE", store(x, "a", Bench.bytes("user")), 0);
        Bench.due("on", x.told(0, 0), 1);
        Bench.due("what writes nothing is answered", Bench.send(x, 0, 4), 0);
        Bench.due("a WRAP writes nothing", Bench.wrap(x, 0, "a") > 0, true);
        Bench.powerOver(x);
        Bench.due("on", x.told(0, 0), 1);
        Bench.due("the next act", store(x, "b", Bench.bytes("u")), -3);
        Bench.due("off", x.told(0, 0), 0);
        Bench.due("acts", x.told(0, 1), WHOLE);
        Bench.holds("not written", Bench.isErased(x, 0, 32, 300));
    }

    @Sentence("FLASH (promise 11): it is told no more then")
    static void toldNoMore() {
        PasskeyHouse x = Bench.house();
        x.cut(0, 3);
        Bench.due("MAKE", store(x, "a", Bench.bytes("user")), -3);
        Bench.due("it wakes and moves", x.power(0, true), true);
        Bench.due("acts of both", x.told(0, 1), 3 + 4 + 8 + 4);
        for (int i = 0; i < 5; i++) {
            Bench.due("MAKE", store(x, "a", Bench.bytes(i)), 0);
        }
        Bench.powerOver(x);
        Bench.due("on", x.told(0, 0), 1);
    }

    @Sentence("FLASH (promise 12): a PAGE of 64 bytes is erased as one act, in order, and none before its act")
    static void pages() {
        for (int acts = 0; acts <= 4; acts++) {
            PasskeyHouse x = Bench.house();
            reset(x, 2);
            for (int i = 0; i < 13; i++) {
                Bench.due("MAKE", store(x, "a", Bench.bytes("u" + i % 2)), 0);
            }
            Bench.due("area 1 is nearly full of records", x.told(0, 7), 12 + 13 * 18);
            reset(x, 3);
            Bench.powerOver(x);
            x.press(0);
            x.cut(0, acts);
            Bench.due("RESET", Bench.send(x, 0, 7), -3);
            for (int page = 0; page < 4; page++) {
                boolean erased = Bench.isErased(x, 0, 256 + 64 * page, 256 + 64 * page + 40);
                Bench.due("page " + page + " with " + acts, erased, page < acts);
                Bench.due("its first byte", x.flash(0, 256 + 64 * page) == 255, page < acts);
            }
            Bench.due("acts", x.told(0, 1), 16 + 13 * 18 + 16 + acts);
        }
    }

    private static void reset(PasskeyHouse x, int generation) {
        Bench.powerOver(x);
        x.press(0);
        Bench.due("RESET", Bench.send(x, 0, 7), 0);
        Bench.due("generation", x.told(0, 5), generation);
    }

    // ---- checks, headers, records

    /** A user of three bytes by which the first CREDENTIAL of a key for "a" has such a check; null when there is none. */
    private static byte[] userWith(int mask, int value) {
        for (int v = 0; v < 1 << 24; v++) {
            int[] all = {5, 15, 0, 0, 0, 3, 0, 0, 0, 2, 0, 0, 0, 3, v >> 16, v >> 8 & 255, v & 255};
            int c = 0;
            for (int b : all) {
                c = (31 * c + b + 7) % 65536;
            }
            if ((c & mask) == value) {
                return Bench.bytes(v >> 16, v >> 8 & 255, v & 255);
            }
        }
        return null;
    }

    @Sentence("FLASH, THE CHECK (promise 15): in the end 65535 counts as 0")
    static void checkOf65535() {
        PasskeyHouse x = Bench.house();
        Bench.due("MAKE", store(x, "a", userWith(65535, 65535)), 0);
        Bench.due("high", x.flash(0, 29), 0);
        Bench.due("low", x.flash(0, 30), 0);
        Bench.powerOver(x);
        told(x, "it is a record", 1, 0, 31, 1);
        PasskeyHouse y = Bench.house();
        y.cut(0, 17);
        Bench.due("MAKE without its check", store(y, "a", userWith(65535, 65535)), -3);
        y.power(0, true);
        told(y, "erased bytes are never a check", 2, 1, 12, 0);
    }

    @Sentence("FLASH, THE CHECK (promise 15): 65534 and 0 are written as they are")
    static void checksBeside() {
        PasskeyHouse x = Bench.house();
        Bench.due("MAKE", store(x, "a", userWith(65535, 65534)), 0);
        Bench.due("high", x.flash(0, 29), 255);
        Bench.due("low", x.flash(0, 30), 254);
        PasskeyHouse y = Bench.house();
        Bench.due("MAKE", store(y, "a", userWith(65535, 0)), 0);
        Bench.due("high", y.flash(0, 29), 0);
        Bench.due("low", y.flash(0, 30), 0);
    }

    @Sentence("FLASH (promises 9, 16): a record whose check ends with 255 is right before its last byte is written")
    static void checkThatEndsErased() {
        PasskeyHouse x = Bench.house();
        x.cut(0, 18);
        Bench.due("MAKE", store(x, "a", userWith(255, 255)), -3);
        Bench.due("wakes", x.power(0, true), true);
        told(x, "it is a record", 1, 0, 31, 1);
        Bench.due("no move", x.told(0, 1), 18);
        PasskeyHouse y = Bench.house();
        y.cut(0, 17);
        Bench.due("MAKE", store(y, "a", userWith(255, 255)), -3);
        Bench.due("wakes", y.power(0, true), true);
        told(y, "but not before the one before", 2, 1, 12, 0);
    }

    @Sentence("FLASH, RECORDS (promise 12): 5 CREDENTIAL (13 .. 20): the user, 1 .. 8 bytes")
    static void credentialLengths() {
        for (int u = 1; u <= 8; u++) {
            PasskeyHouse x = Bench.house();
            byte[] user = Bench.bytes("\u00ff\u0000xyz\u0080\u007f\u0001".substring(0, u));
            Bench.due("MAKE", store(x, "a", user), 0);
            Bench.holds("CREDENTIAL with " + u, Bench.isRecord(x, 0, 0, 12, 5,
                Bench.bytes(Bench.four(3), Bench.four(2), Bench.four(3), user)));
            Bench.powerOver(x);
            told(x, "it wakes", 1, 0, 12 + 16 + u, 1, 8, 0, 0);
            Bench.due("bytes", x.credential(0, 0, 3), u);
            for (int j = 0; j < u; j++) {
                Bench.due("byte " + j, x.credential(0, 0, 4 + j), user[j] & 255);
            }
        }
    }

    @Sentence("FLASH, HEADER (promise 16): a GENERATION (two bytes, from 1 on), above 255 too")
    static void generationAbove255() {
        for (int generation = 256; generation <= 257; generation++) {
            int least = 0;
            int most = 420;
            while (most - least > 1) {
                int middle = (least + most) / 2;
                if (crowded(middle).told(0, 5) >= generation) {
                    most = middle;
                } else {
                    least = middle;
                }
            }
            PasskeyHouse x = crowded(most);
            int area = 1 - generation % 2;
            Bench.due("generation", x.told(0, 5), generation);
            Bench.holds("its header", Bench.isHeader(x, 0, area, generation));
            Bench.holds("the other's", Bench.isHeader(x, 0, 1 - area, generation - 1));
            int end = x.told(0, 7);
            Bench.powerOver(x);
            told(x, "it wakes", generation, area, end, 6, 8, 1, 1);
        }
    }

    @Sentence("FLASH, WAKES (promises 9, 16): a header whose check ends with 255 is good before its last byte is written")
    static void headerThatEndsErased() {
        for (int acts = 14; acts <= 15; acts++) {
            PasskeyHouse x = Bench.house();
            Bench.lay(x, 7);
            for (int generation = 2; generation <= 31; generation++) {
                Bench.powerOver(x);
                x.press(0);
                if (generation == 31) {
                    x.cut(0, acts);
                }
                Bench.due("RESET to " + generation, x.command(0, 1), generation < 31 ? 1 : -3);
            }
            Bench.due("wakes", x.power(0, true), true);
            told(x, "with " + acts, acts == 15 ? 31 : 30, acts == 15 ? 0 : 1, 12, 0, 8, 0, 0);
        }
    }

    @Sentence("FLASH, RECORDS (promises 12, 15): 5 CREDENTIAL: its secret (4 bytes), above 255 too")
    static void secretAbove255() {
        PasskeyHouse x = Bench.house();
        Bench.lay(x, "aa");
        x.party(1, 1);
        x.page(0, 1);
        for (int secret = 3; secret <= 299; secret++) {
            x.own(1);
        }
        x.offer(0, 7, 1, false, false);
        x.press(0);
        Bench.lay(x, "a");
        Bench.due("create", x.create(0, 0, 0, 0, 7, 1, 1, 1), 0);
        Bench.due("judge", x.judge(0, -1), 0);
        int[] want = {0, 0, 1, 44};
        for (int i = 0; i < 4; i++) {
            Bench.due("byte " + i, x.flash(0, 12 + 2 + 8 + i), want[i]);
        }
        Bench.powerOver(x);
        x.offer(0, 7, 1, true, false);
        x.press(0);
        Bench.lay(x, "a");
        Bench.due("get", x.get(0, 0, 0, 0, 7, 1, 1, 0), 0);
        Bench.due("it signs by it", x.judge(0, -1), 0);
    }

    /** A key with as much as there is room for, whose PIN was changed so many times: each time it moves, or nearly so. */
    private static PasskeyHouse crowded(int changes) {
        PasskeyHouse x = Bench.house();
        Bench.lay(x, "a");
        x.page(0, 1);
        for (int i = 0; i < 6; i++) {
            x.press(0);
            Bench.due("create", x.create(0, 0, 1, -1, i, i < 3 ? 8 : 1, 1, 1), 0);
            Bench.lay(x, "a");
        }
        for (int i = 0; i < 6; i++) {
            Bench.due("get", x.get(0, 0, 1, -1, 1, 1, 1, i == 0 ? 1 : 4), 0);
            Bench.lay(x, "a");
        }
        Bench.due("own count", Bench.signBy(x, 0, "a", Bench.wrap(x, 0, "a")), 0);
        Bench.setPin(x, 0, 0, "1234");
        for (int i = 0; i < changes; i++) {
            Bench.due("changePin", x.changePin(0, 0, 4), 0);
        }
        return x;
    }

    // ---- what records say together

    @Sentence("FLASH (promise 16): PIN (none at first), TRIES (8 at first), the key's COUNT (0 at first), no credentials")
    static void atFirst() {
        PasskeyHouse x = Bench.house();
        told(x, "new", 1, 0, 12, 0, 8, 0, 0);
        Bench.powerOver(x);
        told(x, "woken", 1, 0, 12, 0, 8, 0, 0);
    }

    @Sentence("FLASH (promise 16): TRIES are 8 with each PIN")
    static void triesWithEachPin() {
        PasskeyHouse x = Bench.house();
        Bench.setPin(x, 0, 0, "1234");
        Bench.due("wrong", Bench.unlock(x, 0, 0, "4321"), 49);
        Bench.due("tries", x.told(0, 9), 7);
        Bench.lay(x, "1234");
        x.pin(0, 4);
        Bench.lay(x, "5678");
        x.cut(0, 5 + 8);
        Bench.due("power fails in the PIN behind TRIES 7 and 8", x.changePin(0, 0, 4), -3);
        x.cut(0, -1);
        x.power(0, true);
        Bench.due("tries", x.told(0, 9), 8);
        Bench.due("wrong", Bench.unlock(x, 0, 0, "5678"), 49);
        Bench.lay(x, "1234");
        x.pin(0, 4);
        Bench.lay(x, "5678");
        Bench.due("changePin", x.changePin(0, 0, 4), 0);
        Bench.due("tries", x.told(0, 9), 8);
        Bench.powerOver(x);
        Bench.due("tries when it woke", x.told(0, 9), 8);
    }

    @Sentence("FLASH (promise 17): each credential with a count, 0 at first, then as the latest COUNT behind it for its id")
    static void countsBehind() {
        PasskeyHouse x = Bench.house();
        int first = Bench.store(x, 0, "a", "1");
        int second = Bench.store(x, 0, "a", "2");
        Bench.due("count", x.credential(0, 0, 2), 0);
        for (int i = 1; i <= 3; i++) {
            Bench.due("sign", Bench.signBy(x, 0, "a", first), 0);
            Bench.due("count", x.credential(0, 0, 2), i);
        }
        Bench.due("not the other's", x.credential(0, 1, 2), 0);
        Bench.store(x, 0, "a", "1");
        Bench.due("in its place with 0", x.credential(0, 0, 2), 0);
        Bench.due("sign", Bench.signBy(x, 0, "a", second), 0);
        Bench.powerOver(x);
        Bench.due("0 when it woke", x.credential(0, 0, 2), 0);
        Bench.due("the other's", x.credential(0, 1, 2), 1);
        Bench.due("the key's own", x.told(0, 11), 0);
    }

    @Sentence("FLASH (promise 17): A CREDENTIAL with the same party and user as one before stands at its place, instead of it")
    static void sameParyAndUser() {
        PasskeyHouse x = Bench.house();
        int first = Bench.store(x, 0, "a", "1");
        int second = Bench.store(x, 0, "a", "2");
        int third = Bench.store(x, 0, "b", "1");
        int again = Bench.store(x, 0, "a", "1");
        for (int round = 0; round < 2; round++) {
            Bench.due("three", x.told(0, 8), 3);
            Bench.due("at its place", x.credential(0, 0, 0), again);
            Bench.due("the second", x.credential(0, 1, 0), second);
            Bench.due("the third", x.credential(0, 2, 0), third);
            Bench.powerOver(x);
        }
        Bench.due("the first is gone", Bench.signBy(x, 0, "a", first), 46);
        Bench.due("the new one is there", Bench.signBy(x, 0, "a", again), 0);
    }

    @Sentence("FLASH (promise 17): others stand behind those that there are: another party, another user, a user of other length")
    static void others() {
        PasskeyHouse x = Bench.house();
        byte[][] users = {Bench.bytes(1), Bench.bytes(0, 1), Bench.bytes(1, 0), Bench.bytes(0, 0, 1)};
        for (int i = 0; i < users.length; i++) {
            Bench.due("MAKE", store(x, "a", users[i]), 0);
            Bench.due("credentials", x.told(0, 8), 1 + i);
        }
        Bench.due("another party", store(x, "aa", users[0]), 0);
        Bench.due("credentials", x.told(0, 8), 5);
        for (int i = 0; i < users.length; i++) {
            Bench.due("MAKE again", store(x, "a", users[i]), 0);
            Bench.due("at its place", x.credential(0, i, 0), Bench.answerFour(x, 0, 21));
            Bench.due("five still", x.told(0, 8), 5);
        }
        Bench.powerOver(x);
        for (int i = 0; i < users.length; i++) {
            Bench.due("bytes", x.credential(0, i, 3), users[i].length);
        }
    }

    // ---- moving and writing

    @Sentence("FLASH, TO MOVE (promises 12, 16): MASTER alone, when there is no PIN, TRIES are 8 and counts 0")
    static void leastMove() {
        PasskeyHouse x = Bench.house();
        x.cut(0, 1);
        Bench.due("MAKE", store(x, "a", Bench.bytes("u")), -3);
        x.power(0, true);
        told(x, "moved", 2, 1, 12, 0, 8, 0, 0);
        Bench.due("acts", x.told(0, 1), 1 + 4 + 8 + 4);
        Bench.holds("header", Bench.isHeader(x, 0, 1, 2));
        Bench.holds("MASTER", Bench.isRecord(x, 0, 1, 4, 1, Bench.four(1)));
        Bench.holds("no more", Bench.isErased(x, 0, 256 + 12, 512));
    }

    /** What failed is a record of one byte; what moves is all else. */
    private static void movedBy(PasskeyHouse x, int records, int... want) {
        int acts = x.told(0, 1);
        x.cut(0, 1);
        Bench.due("MAKE", store(x, "z", Bench.bytes("z")), -3);
        Bench.due("wakes", x.power(0, true), true);
        told(x, "moved", want);
        Bench.due("acts", x.told(0, 1), acts + 1 + 4 + records + 4);
        Bench.holds("header", Bench.isHeader(x, 0, want[1], want[0]));
    }

    @Sentence("FLASH, TO MOVE (promise 16): PIN (if any), TRIES (if not 8)")
    static void moveWithPin() {
        PasskeyHouse x = Bench.house();
        Bench.setPin(x, 0, 0, "1234");
        int hash = x.terms();
        Bench.lay(x, "a");
        x.page(0, 1);
        Bench.due("unlock", x.unlock(0, 0), 0);
        x.press(0);
        x.cut(0, 1);
        Bench.due("create", x.create(0, 0, 1, -1, 1, 1, 1, 3), -3);
        x.power(0, true);
        told(x, "moved", 2, 1, 20, 0, 8, 1, 0);
        Bench.holds("PIN", Bench.isRecord(x, 0, 1, 12, 2, Bench.four(hash)));
        Bench.holds("no TRIES of 8", Bench.isErased(x, 0, 256 + 20, 256 + 60));
        Bench.due("wrong", Bench.unlock(x, 0, 0, "4321"), 49);
        Bench.lay(x, "1234");
        x.pin(0, 4);
        x.cut(0, 1);
        Bench.due("power fails in TRIES 6", x.unlock(0, 0), -3);
        x.power(0, true);
        told(x, "moved", 3, 0, 25, 0, 7, 1, 0);
        Bench.holds("PIN", Bench.isRecord(x, 0, 0, 12, 2, Bench.four(hash)));
        Bench.holds("TRIES 7", Bench.isRecord(x, 0, 0, 20, 3, Bench.bytes(7)));
        Bench.holds("no more", Bench.isErased(x, 0, 25, 256));
    }

    @Sentence("FLASH, TO MOVE (promise 16): TRIES of 0 are written too")
    static void moveWithNoTries() {
        PasskeyHouse x = Bench.house();
        int id = Bench.store(x, 0, "a", "u");
        Bench.setPin(x, 0, 0, "1234");
        Bench.lay(x, "4321");
        x.pin(0, 4);
        for (int i = 0; i < 8; i++) {
            Bench.holds("wrong", x.unlock(0, 0) > 0);
            if (i % 2 == 1) {
                Bench.powerOver(x);
            }
        }
        Bench.due("end", x.told(0, 7), 12 + 17 + 8 + 8 * 5);
        for (int i = 0; i < 15; i++) {
            Bench.due("sign", Bench.signBy(x, 0, "a", id), 0);
        }
        told(x, "moved", 2, 1, 12 + 8 + 5 + 17 + 12 + 12, 1, 0, 1, 0);
        Bench.holds("TRIES 0", Bench.isRecord(x, 0, 1, 20, 3, Bench.bytes(0)));
        Bench.powerOver(x);
        Bench.due("tries", x.told(0, 9), 0);
    }

    @Sentence("FLASH, TO MOVE (promise 16): the key's COUNT (if not 0)")
    static void moveWithOwnCount() {
        PasskeyHouse x = Bench.house();
        int id = Bench.wrap(x, 0, "a");
        movedBy(x, 8, 2, 1, 12, 0, 8, 0, 0);
        Bench.due("sign", Bench.signBy(x, 0, "a", id), 0);
        movedBy(x, 8 + 12, 3, 0, 24, 0, 8, 0, 1);
        Bench.holds("COUNT", Bench.isRecord(x, 0, 0, 12, 4, Bench.bytes(Bench.four(0), Bench.four(1))));
    }

    @Sentence("FLASH, TO MOVE (promise 16): for each credential CREDENTIAL and its COUNT (if not 0)")
    static void moveWithCredentials() {
        PasskeyHouse x = Bench.house();
        int first = Bench.store(x, 0, "a", "1");
        int second = Bench.store(x, 0, "a", "22");
        Bench.due("sign", Bench.signBy(x, 0, "a", first), 0);
        movedBy(x, 8 + 17 + 12 + 18, 2, 1, 12 + 17 + 12 + 18, 2, 8, 0, 0);
        Bench.due("CREDENTIAL", x.flash(0, 256 + 12), 5);
        Bench.holds("COUNT", Bench.isRecord(x, 0, 1, 29, 4, Bench.bytes(Bench.four(first), Bench.four(1))));
        Bench.due("CREDENTIAL", x.flash(0, 256 + 41), 5);
        Bench.due("its id", x.flash(0, 256 + 46), second);
        Bench.holds("no COUNT of 0", Bench.isErased(x, 0, 256 + 59, 512));
        Bench.due("first", x.credential(0, 0, 2), 1);
        Bench.due("second", x.credential(0, 1, 2), 0);
    }

    @Sentence("FLASH, TO MOVE (promise 16): a credential that was replaced is not written, and its COUNT neither")
    static void moveWithoutReplaced() {
        PasskeyHouse x = Bench.house();
        int first = Bench.store(x, 0, "a", "1");
        Bench.due("sign", Bench.signBy(x, 0, "a", first), 0);
        Bench.store(x, 0, "a", "1");
        movedBy(x, 8 + 17, 2, 1, 12 + 17, 1, 8, 0, 0);
    }

    @Sentence("FLASH, TO MOVE (promises 9, 11): power that fails at any act of a move leaves what there was")
    static void failingMoves() {
        int whole = 4 + 8 + 17 + 12 + 4;
        for (int acts = 0; acts <= whole; acts++) {
            PasskeyHouse x = Bench.house();
            int id = Bench.store(x, 0, "a", "1");
            Bench.due("sign", Bench.signBy(x, 0, "a", id), 0);
            x.cut(0, 1);
            Bench.due("MAKE", store(x, "b", Bench.bytes("u")), -3);
            x.cut(0, acts);
            Bench.due("wakes with " + acts, x.power(0, true), acts >= whole);
            Bench.due("acts with " + acts, x.told(0, 1), 17 + 12 + 1 + acts);
            x.cut(0, -1);
            Bench.due("wakes then", x.power(0, true), true);
            told(x, "it has all", 2, 1, 12 + 17 + 12, 1, 8, 0, 0);
            Bench.due("acts of the other move", x.told(0, 1), 17 + 12 + 1 + acts + (acts < whole ? whole : 0));
            Bench.due("its count", x.credential(0, 0, 2), 1);
        }
    }

    /** A key with a PIN and a credential for "a" of a user, which signed 17 times: records end at 240 and the user's bytes. */
    private static PasskeyHouse nearlyFull(String user) {
        PasskeyHouse x = Bench.house();
        int id = Bench.store(x, 0, "a", user);
        Bench.setPin(x, 0, 0, "1234");
        for (int i = 0; i < 17; i++) {
            Bench.due("sign", Bench.signBy(x, 0, "a", id), 0);
        }
        Bench.due("end", x.told(0, 7), 240 + user.length());
        return x;
    }

    @Sentence("FLASH, TO WRITE (promises 12, 16): a record that ends with the area lies wholly in it: no move")
    static void endsWithArea() {
        PasskeyHouse x = nearlyFull("1234");
        Bench.due("sign", Bench.signBy(x, 0, "a", x.credential(0, 0, 0)), 0);
        told(x, "no move", 1, 0, 256, 1, 8, 1, 0);
        Bench.powerOver(x);
        told(x, "it wakes so", 1, 0, 256, 1, 8, 1, 0);
        Bench.due("count", x.credential(0, 0, 2), 18);
        Bench.due("the next one", Bench.signBy(x, 0, "a", x.credential(0, 0, 0)), 0);
        told(x, "moves", 2, 1, 12 + 8 + 20 + 12 + 12, 1, 8, 1, 0);
    }

    @Sentence("FLASH, TO WRITE (promises 12, 16): if it does not lie wholly in the area, by one byte, the key moves first")
    static void oneByteTooLong() {
        PasskeyHouse x = nearlyFull("12345");
        Bench.due("sign", Bench.signBy(x, 0, "a", x.credential(0, 0, 0)), 0);
        told(x, "moves", 2, 1, 12 + 8 + 21 + 12 + 12, 1, 8, 1, 0);
        Bench.due("count", x.credential(0, 0, 2), 18);
        Bench.holds("what there was", Bench.isRecord(x, 0, 1, 41, 4, Bench.bytes(Bench.four(x.credential(0, 0, 0)), Bench.four(17))));
        Bench.holds("nothing was written there", Bench.isErased(x, 0, 245, 256));
    }

    @Sentence("FLASH, TO WRITE (promises 12, 16): a lesser record may lie in the area still where a greater one does not")
    static void lesserRecord() {
        PasskeyHouse x = nearlyFull("12345678");
        Bench.lay(x, "4321");
        x.pin(0, 4);
        Bench.due("wrong", x.unlock(0, 0), 49);
        told(x, "TRIES lies in it", 1, 0, 253, 1, 7, 1, 0);
        Bench.due("wrong", x.unlock(0, 0), 49);
        told(x, "the next does not", 2, 1, 12 + 8 + 5 + 24 + 12 + 5, 1, 6, 1, 0);
        Bench.holds("TRIES 7", Bench.isRecord(x, 0, 1, 20, 3, Bench.bytes(7)));
        Bench.holds("TRIES 6", Bench.isRecord(x, 0, 1, 61, 3, Bench.bytes(6)));
    }

    @Sentence("FLASH, TO WRITE (promises 9, 16): What it says holds when it is written whole")
    static void writtenWhole() {
        for (int acts = 0; acts < 12; acts++) {
            PasskeyHouse x = Bench.house();
            int id = Bench.store(x, 0, "a", "1");
            x.cut(0, acts);
            Bench.due("sign with " + acts, Bench.signBy(x, 0, "a", id), -3);
            x.cut(0, -1);
            Bench.due("wakes", x.power(0, true), true);
            Bench.due("count with " + acts, x.credential(0, 0, 2), 0);
            Bench.due("it moves if a byte was written", x.told(0, 5), acts == 0 ? 1 : 2);
            Bench.due("sign", Bench.signBy(x, 0, "a", id), 0);
            Bench.due("count", x.credential(0, 0, 2), 1);
        }
    }

    // ---- room

    @Sentence("FLASH (promise 12): There is ROOM when 61 + the sum is not above 256: 256 is, 257 is not")
    static void roomTo256() {
        PasskeyHouse x = Bench.house();
        String eight = "12345678";
        for (String user : new String[] {eight, eight, eight, "u", "u"}) {
            Bench.store(x, 0, "p" + x.told(0, 8), user);
        }
        Bench.due("257", store(x, "z", Bench.bytes("uu")), 40);
        Bench.due("five", x.told(0, 8), 5);
        Bench.due("256", store(x, "z", Bench.bytes("u")), 0);
        Bench.due("six", x.told(0, 8), 6);
        Bench.due("more", store(x, "y", Bench.bytes("u")), 40);
        Bench.due("six", x.told(0, 8), 6);
    }

    @Sentence("FLASH (promise 12): ROOM of users of one length: five of 8 bytes, six of 4, none more")
    static void roomOfOneLength() {
        // 195 = 5 * 36 + 15 = 5 * 35 + 20 = 5 * 34 + 25 = 5 * 33 + 30 = 6 * 32 + 3 = 6 * 29 + 21
        int[] most = {6, 6, 6, 6, 5, 5, 5, 5};
        for (int u = 1; u <= 8; u++) {
            PasskeyHouse x = Bench.house();
            for (int i = 0; i < most[u - 1]; i++) {
                Bench.due("MAKE with " + u, store(x, "p" + i, Bench.bytes("12345678".substring(0, u))), 0);
            }
            int end = x.told(0, 7);
            Bench.due("no room with " + u, store(x, "q", Bench.bytes("12345678".substring(0, u))), 40);
            Bench.due("credentials", x.told(0, 8), most[u - 1]);
            Bench.due("nothing is written", x.told(0, 7), end);
        }
    }

    @Sentence("FLASH (promise 12): ROOM is told without the one in whose place it stands")
    static void roomInPlace() {
        PasskeyHouse x = Bench.house();
        String[] users = {"12345678", "12345678", "12345678", "u", "u", "u"};
        for (int i = 0; i < users.length; i++) {
            Bench.store(x, 0, "p" + i, users[i]);
        }
        for (int i = 0; i < users.length; i++) {
            Bench.due("in its place", store(x, "p" + i, Bench.bytes(users[i])), 0);
            Bench.due("at its place", x.credential(0, i, 0), Bench.answerFour(x, 0, 21));
            Bench.due("six still", x.told(0, 8), 6);
        }
        Bench.due("the party of one, the user of another", store(x, "p0", Bench.bytes("u")), 40);
        Bench.due("a WRAP needs none", Bench.wrap(x, 0, "q") > 0, true);
    }

    // ---- a new key, and waking

    @Sentence("FLASH (promises 8, 15): A key that is new has in area 0 the generation 1 and MASTER; all other bytes are 255")
    static void newKey() {
        PasskeyHouse x = new PasskeyHouse();
        for (int k = 0; k < 3; k++) {
            x.key();
            Bench.holds("header", Bench.isHeader(x, k, 0, 1));
            Bench.holds("MASTER, a FRESH term", Bench.isRecord(x, k, 0, 4, 1, Bench.four(1 + k)));
            Bench.due("FRESH", x.sort(1 + k), 1);
        }
        Bench.holds("all other bytes", Bench.isErased(x, 1, 12, 400));
        PasskeyHouse y = Bench.house();
        Bench.holds("all other bytes", Bench.isErased(y, 0, 400, 512));
    }

    @Sentence("FLASH, WAKES (promises 9, 16): in use is the area with a good header, of two the greater generation")
    static void greaterGeneration() {
        PasskeyHouse x = Bench.house();
        for (int generation = 2; generation <= 5; generation++) {
            reset(x, generation);
            Bench.due("area", x.told(0, 6), 1 - generation % 2);
            Bench.holds("both are good", Bench.isHeader(x, 0, generation % 2, generation - 1));
            Bench.powerOver(x);
            told(x, "it wakes", generation, 1 - generation % 2, 12, 0, 8, 0, 0);
        }
    }

    @Sentence("FLASH, WAKES (promise 9): If a byte from there on is not 255, it moves at once")
    static void movesAtOnce() {
        for (int acts = 1; acts < 17; acts++) {
            PasskeyHouse x = Bench.house();
            x.cut(0, acts);
            Bench.due("MAKE", store(x, "a", Bench.bytes("u")), -3);
            Bench.due("wakes", x.power(0, true), true);
            told(x, "with " + acts, 2, 1, 12, 0);
            Bench.due("acts", x.told(0, 1), acts + 16);
            Bench.powerOver(x);
            told(x, "once", 2, 1, 12, 0);
            Bench.due("acts", x.told(0, 1), acts + 16);
        }
    }

    @Sentence("FLASH, WAKES (promise 9): when all bytes from there on are 255, it does not move")
    static void doesNotMove() {
        PasskeyHouse x = Bench.house();
        x.cut(0, 0);
        Bench.due("MAKE", store(x, "a", Bench.bytes("u")), -3);
        Bench.due("wakes", x.power(0, true), true);
        told(x, "no byte was written", 1, 0, 12, 0);
        Bench.due("acts", x.told(0, 1), 0);
        Bench.due("MAKE", store(x, "a", Bench.bytes("u")), 0);
        Bench.powerOver(x);
        told(x, "a record was written", 1, 0, 29, 1);
        Bench.due("acts", x.told(0, 1), 17);
    }

    @Sentence("FLASH, WAKES (promise 9): the bytes of the other area are of no matter")
    static void otherArea() {
        PasskeyHouse x = Bench.house();
        Bench.powerOver(x);
        x.press(0);
        x.cut(0, 4 + 5);
        Bench.due("RESET", Bench.send(x, 0, 7), -3);
        Bench.due("bytes are there", x.flash(0, 256 + 4), 1);
        Bench.due("wakes", x.power(0, true), true);
        told(x, "no move", 1, 0, 12, 0);
        Bench.due("acts", x.told(0, 1), 9);
    }

    @Sentence("FLASH, WAKES (promise 9): Then: a new secret to AGREE with, another new one, THE TOKEN")
    static void newSecrets() {
        PasskeyHouse x = Bench.house();
        Bench.setPin(x, 0, 0, "1234");
        Bench.due("unlock", x.unlock(0, 0), 0);
        Bench.lay(x, Bench.four(1));
        int mark = x.seal(0, 3, -1);
        Bench.Pairs map = Bench.more(Bench.makeMap(1, "a", "u"), 8, Bench.four(mark), 9, 1);
        Bench.due("the token passes", Bench.send(x, 0, 1, map), 39);
        Bench.send(x, 0, 6, Bench.map(1, 1, 2, 2));
        int asked = Bench.answerFour(x, 0, 4);
        Bench.powerOver(x);
        Bench.due("another token", Bench.send(x, 0, 1, map), 51);
        Bench.send(x, 0, 6, Bench.map(1, 1, 2, 2));
        Bench.holds("another PUBLIC", Bench.answerFour(x, 0, 4) != asked);
    }

    @Sentence("FLASH, WAKES (promise 9): no wrong tries SINCE POWER, no list, and no command SINCE POWER")
    static void sincePower() {
        PasskeyHouse x = Bench.house();
        Bench.store(x, 0, "a", "1");
        Bench.store(x, 0, "a", "2");
        Bench.setPin(x, 0, 0, "1234");
        Bench.lay(x, "4321");
        x.pin(0, 4);
        Bench.due("wrong", x.unlock(0, 0), 49);
        Bench.due("wrong", x.unlock(0, 0), 49);
        Bench.powerOver(x);
        Bench.due("wrong, the first since", x.unlock(0, 0), 49);
        Bench.due("wrong, the second", x.unlock(0, 0), 49);
        Bench.due("wrong, the third", x.unlock(0, 0), 52);
        Bench.due("no more", x.unlock(0, 0), 52);
        Bench.due("SIGN", Bench.send(x, 0, 2, Bench.more(Bench.signMap(1, "a"), 5, Bench.map("up", false))), 0);
        Bench.powerOver(x);
        Bench.due("no list", Bench.send(x, 0, 8), 48);
        Bench.powerOver(x);
        Bench.due("RESET wants a press", Bench.send(x, 0, 7), 39);
        Bench.due("RESET is a command too", Bench.send(x, 0, 7), 48);
    }
}
