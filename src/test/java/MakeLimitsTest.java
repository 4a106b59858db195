import java.util.List;

/** Promise 12, 1 MAKE and THE PIN TEST: their boundary cases, in the order in which they are told. */
public final class MakeLimitsTest {

    private static final Bench.Pairs GOOD = Bench.makeMap(9, "a.ex", "user");
    private static final Bench.Pairs KEPT = Bench.more(GOOD, 7, Bench.map("rk", true));
    private static final Object ALGORITHM = Bench.map("alg", -7, "type", "public-key");

    public static void main(String[] args) {
        Bench.run(MakeLimitsTest.class);
    }

    /** A status other than 0: so many presses are taken by it, no term is made, nothing is written. */
    private static void fault(PasskeyHouse x, String what, Bench.Pairs map, int want, int presses) {
        int terms = x.terms();
        int acts = x.told(0, 1);
        int waiting = x.told(0, 2);
        int taken = x.told(0, 3);
        Bench.due(what, Bench.send(x, 0, 1, map), want);
        Bench.holds(what + ": the status alone", Bench.answers(x, 0, want));
        Bench.due(what + ": terms", x.terms(), terms);
        Bench.due(what + ": acts", x.told(0, 1), acts);
        Bench.due(what + ": presses that wait", x.told(0, 2), waiting - presses);
        Bench.due(what + ": presses that were taken", x.told(0, 3), taken + presses);
    }

    private static Bench.Pairs excluding(Bench.Pairs map, Object... entries) {
        return Bench.more(map, 5, List.of(entries));
    }

    // ---- an id that is of this key

    @Sentence("MAKE (promise 12): an entry of 5 that is of this key with that name: 39 without a press; else one is taken: 25")
    static void excluded() {
        PasskeyHouse x = Bench.house();
        int stored = Bench.store(x, 0, "a.ex", "u");
        int wrapped = Bench.wrap(x, 0, "a.ex");
        for (int id : new int[] {stored, wrapped}) {
            fault(x, "no press", excluding(GOOD, Bench.entry(id)), 39, 0);
            x.press(0);
            x.press(0);
            fault(x, "a press", excluding(GOOD, Bench.entry(id)), 25, 1);
            fault(x, "another press", excluding(GOOD, Bench.entry(id)), 25, 1);
            fault(x, "no press more", excluding(GOOD, Bench.entry(id)), 39, 0);
        }
    }

    @Sentence("MAKE (promise 12): an entry of 5: the last one counts as the first does")
    static void excludedLast() {
        PasskeyHouse x = Bench.house();
        int id = Bench.store(x, 0, "a.ex", "u");
        Object none = Bench.entry(id + 100);
        x.press(0);
        x.press(0);
        x.press(0);
        fault(x, "the first of many", excluding(GOOD, Bench.entry(id), none, none), 25, 1);
        fault(x, "the last of many", excluding(GOOD, none, none, none, none, none, Bench.entry(id)), 25, 1);
        fault(x, "twice", excluding(GOOD, Bench.entry(id), Bench.entry(id)), 25, 1);
    }

    @Sentence("MAKE (promise 12): an entry of 5 with another type than \"public-key\" does not count")
    static void excludedOfOtherType() {
        PasskeyHouse x = Bench.house();
        int id = Bench.store(x, 0, "a.ex", "u");
        x.press(0);
        for (String type : new String[] {"", "public-ke", "public-keys", "Public-key", "public-kex"}) {
            Bench.Pairs map = Bench.with(excluding(GOOD, Bench.map("id", Bench.four(id), "type", type)), 4, List.of());
            fault(x, "type " + type, map, 38, 0);
        }
    }

    @Sentence("IS OF A KEY (promise 12): An id of four bytes")
    static void idOfFourBytes() {
        PasskeyHouse x = Bench.house();
        int id = Bench.store(x, 0, "a.ex", "u");
        byte[] four = Bench.four(id);
        byte[][] others = {Bench.bytes(), Bench.bytes(id), Bench.bytes(0, 0, id), Bench.bytes(four, 0), Bench.bytes(0, four),
            Bench.bytes(four, four)};
        x.press(0);
        for (byte[] other : others) {
            Object entry = Bench.map("id", other, "type", "public-key");
            fault(x, "an id of " + other.length, Bench.with(excluding(GOOD, entry), 4, List.of()), 38, 0);
        }
        fault(x, "an id of 4", Bench.with(excluding(GOOD, Bench.entry(id)), 4, List.of()), 25, 1);
    }

    @Sentence("IS OF A KEY (promise 12): when a CREDENTIAL of it has it and the HASH of the name")
    static void ofACredential() {
        PasskeyHouse x = Bench.house();
        x.key();
        int id = Bench.store(x, 0, "a.ex", "u");
        x.press(0);
        x.press(1);
        Bench.Pairs no = Bench.with(excluding(GOOD, Bench.entry(id)), 4, List.of());
        Bench.due("of another key", Bench.send(x, 1, 1, no), 38);
        fault(x, "with another name", Bench.with(no, 2, Bench.map("id", "a.e")), 38, 0);
        fault(x, "with a name that no term is of", Bench.with(no, 2, Bench.map("id", "never")), 38, 0);
        fault(x, "it", no, 25, 1);
        int again = Bench.store(x, 0, "a.ex", "u");
        x.press(0);
        fault(x, "one in whose place another stands", no, 38, 0);
        fault(x, "that one", Bench.with(excluding(GOOD, Bench.entry(again)), 4, List.of()), 25, 1);
    }

    @Sentence("IS OF A KEY (promise 12): or it is the WRAP of its master, that HASH, and some secret")
    static void ofAWrap() {
        PasskeyHouse x = Bench.house();
        x.key();
        int id = Bench.wrap(x, 0, "a.ex");
        x.press(0);
        x.press(1);
        Bench.Pairs no = Bench.with(excluding(GOOD, Bench.entry(id)), 4, List.of());
        Bench.due("of another master", Bench.send(x, 1, 1, no), 38);
        fault(x, "of another HASH", Bench.with(no, 2, Bench.map("id", "a.e")), 38, 0);
        for (int t = 1; t <= x.terms(); t++) {
            if (t != id) {
                fault(x, "a term that is no WRAP", Bench.with(excluding(GOOD, Bench.entry(t)), 4, List.of()), 38, 0);
            }
        }
        fault(x, "it", no, 25, 1);
        x.power(0, false);
        x.power(0, true);
        x.press(0);
        Bench.due("RESET", Bench.send(x, 0, 7), 0);
        x.press(0);
        fault(x, "the master of before", no, 38, 0);
    }

    // ---- the order of statuses

    @Sentence("MAKE (promise 12): 25 goes before 38, 43, 51 and 54")
    static void excludedFirst() {
        PasskeyHouse x = Bench.house();
        int id = Bench.store(x, 0, "a.ex", "u");
        Bench.setPin(x, 0, 0, "1234");
        for (int i = 0; i < 5; i++) {
            x.press(0);
        }
        Bench.Pairs map = excluding(GOOD, Bench.entry(id));
        fault(x, "before 54", map, 25, 1);
        fault(x, "before 38", Bench.with(map, 4, List.of()), 25, 1);
        fault(x, "before 43", Bench.more(map, 7, Bench.map("uv", true)), 25, 1);
        fault(x, "before 51", Bench.more(map, 8, Bench.four(1)), 25, 1);
        fault(x, "before 49", Bench.more(map, 8, Bench.bytes()), 25, 1);
        fault(x, "39 before 54", map, 39, 0);
        fault(x, "39 before 38", Bench.with(map, 4, List.of()), 39, 0);
    }

    @Sentence("MAKE (promise 12): No entry of 4 with type \"public-key\" and alg -7: 38")
    static void algorithms() {
        PasskeyHouse x = Bench.house();
        x.press(0);
        fault(x, "no entry", Bench.with(GOOD, 4, List.of()), 38, 0);
        for (int alg : new int[] {-8, -6, 6, 7, 0, -1, -263, Integer.MAX_VALUE, Integer.MIN_VALUE}) {
            fault(x, "alg " + alg, Bench.with(GOOD, 4, List.of(Bench.map("alg", alg, "type", "public-key"))), 38, 0);
        }
        for (String type : new String[] {"", "public-ke", "public-keys", "Public-key"}) {
            fault(x, "type " + type, Bench.with(GOOD, 4, List.of(Bench.map("alg", -7, "type", type))), 38, 0);
        }
        Object typed = Bench.map("alg", -7, "type", "x");
        Object numbered = Bench.map("alg", -8, "type", "public-key");
        fault(x, "one with the type, one with the alg", Bench.with(GOOD, 4, List.of(typed, numbered)), 38, 0);
        Bench.due("the last of three", Bench.send(x, 0, 1, Bench.with(GOOD, 4, List.of(typed, numbered, ALGORITHM))), 0);
        x.press(0);
        Bench.due("the first of three", Bench.send(x, 0, 1, Bench.with(GOOD, 4, List.of(ALGORITHM, typed, numbered))), 0);
    }

    @Sentence("MAKE (promise 12): 38 goes before 43, 51, 53, 54 and 39")
    static void algorithmsFirst() {
        PasskeyHouse x = Bench.house();
        Bench.Pairs no = Bench.with(GOOD, 4, List.of());
        fault(x, "before 39", no, 38, 0);
        x.press(0);
        fault(x, "before 43", Bench.more(no, 7, Bench.map("uv", true)), 38, 0);
        fault(x, "before 51", Bench.more(no, 8, Bench.four(1)), 38, 0);
        fault(x, "before 53", Bench.more(no, 8, Bench.bytes()), 38, 0);
        Bench.setPin(x, 0, 0, "1234");
        fault(x, "before 54", no, 38, 0);
    }

    @Sentence("MAKE (promise 12): uv true: 43, before the PIN test, 54 and 39")
    static void userVerification() {
        PasskeyHouse x = Bench.house();
        Bench.Pairs uv = Bench.more(GOOD, 7, Bench.map("uv", true));
        fault(x, "before 39", uv, 43, 0);
        x.press(0);
        fault(x, "before 51", Bench.more(uv, 8, Bench.four(1)), 43, 0);
        fault(x, "before the press of an empty 8", Bench.more(uv, 8, Bench.bytes()), 43, 0);
        fault(x, "with rk", Bench.more(GOOD, 7, Bench.map("rk", true, "uv", true)), 43, 0);
        Bench.setPin(x, 0, 0, "1234");
        fault(x, "before 54", uv, 43, 0);
        PasskeyHouse y = Bench.house();
        y.press(0);
        Bench.due("uv false", Bench.send(y, 0, 1, Bench.more(GOOD, 7, Bench.map("uv", false))), 0);
    }

    @Sentence("MAKE (promise 12): Without 8: 54 if there is a PIN, with a press or without")
    static void pinWanted() {
        PasskeyHouse x = Bench.house();
        x.press(0);
        Bench.due("no PIN", Bench.send(x, 0, 1, GOOD), 0);
        Bench.setPin(x, 0, 0, "1234");
        fault(x, "a PIN, no press", GOOD, 54, 0);
        x.press(0);
        fault(x, "a PIN, a press", GOOD, 54, 0);
        fault(x, "9 alone is no test", Bench.more(GOOD, 9, 1), 54, 0);
        fault(x, "with rk", KEPT, 54, 0);
    }

    @Sentence("MAKE (promise 12): 39 without a press; one is taken")
    static void press() {
        PasskeyHouse x = Bench.house();
        fault(x, "no press", GOOD, 39, 0);
        fault(x, "no press, rk", KEPT, 39, 0);
        x.press(0);
        x.press(0);
        Bench.due("a press", Bench.send(x, 0, 1, GOOD), 0);
        Bench.due("one is taken", x.told(0, 2), 1);
        Bench.due("a press", Bench.send(x, 0, 1, KEPT), 0);
        Bench.due("one is taken", x.told(0, 2), 0);
        fault(x, "no press more", GOOD, 39, 0);
        x.key();
        x.press(1);
        fault(x, "the press of another key", GOOD, 39, 0);
    }

    @Sentence("MAKE (promise 12): rk true, and no room: 40, behind the press; without rk there is none needed")
    static void noRoom() {
        PasskeyHouse x = Bench.house();
        for (int i = 0; i < 6; i++) {
            Bench.store(x, 0, "p" + i, "user");
        }
        fault(x, "39 before 40", KEPT, 39, 0);
        x.press(0);
        fault(x, "no room", KEPT, 40, 1);
        x.press(0);
        Bench.due("rk false", Bench.send(x, 0, 1, Bench.more(GOOD, 7, Bench.map("rk", false))), 0);
        x.press(0);
        Bench.due("no rk", Bench.send(x, 0, 1, GOOD), 0);
        Bench.setPin(x, 0, 0, "1234");
        x.press(0);
        fault(x, "54 before 40", KEPT, 54, 0);
        fault(x, "51 before 40", Bench.more(KEPT, 8, Bench.four(1)), 51, 0);
    }

    // ---- the PIN test

    /** A key with a PIN, and MARK by its token of a hash; marks[0] is of hash 9, marks[1] of hash 8. */
    private static PasskeyHouse withToken(int[] marks) {
        PasskeyHouse x = Bench.house();
        Bench.setPin(x, 0, 0, "1234");
        Bench.due("unlock", x.unlock(0, 0), 0);
        for (int i = 0; i < marks.length; i++) {
            Bench.lay(x, Bench.four(9 - i));
            marks[i] = x.seal(0, 3, -1);
        }
        return x;
    }

    @Sentence("THE PIN TEST (promise 12): if b is empty: 39 without a press; one is taken, and then 49 if there is a PIN, else 53")
    static void emptyProof() {
        PasskeyHouse x = Bench.house();
        fault(x, "no press, no PIN", Bench.more(GOOD, 8, Bench.bytes()), 39, 0);
        x.press(0);
        fault(x, "no PIN", Bench.more(GOOD, 8, Bench.bytes()), 53, 1);
        x.press(0);
        fault(x, "no PIN, a number 1", Bench.more(GOOD, 8, Bench.bytes(), 9, 1), 53, 1);
        x.press(0);
        fault(x, "no PIN, a number 2", Bench.more(GOOD, 8, Bench.bytes(), 9, 2), 53, 1);
        Bench.setPin(x, 0, 0, "1234");
        fault(x, "no press, a PIN", Bench.more(GOOD, 8, Bench.bytes()), 39, 0);
        x.press(0);
        fault(x, "a PIN", Bench.more(GOOD, 8, Bench.bytes(), 9, 1), 49, 1);
        Bench.due("no try is taken by that", x.told(0, 9), 8);
    }

    @Sentence("THE PIN TEST (promise 12): The number is not there, or not 1: 51")
    static void proofNumber() {
        int[] marks = new int[1];
        PasskeyHouse x = withToken(marks);
        x.press(0);
        fault(x, "not there", Bench.more(GOOD, 8, Bench.four(marks[0])), 51, 0);
        for (int number : new int[] {0, 2, 3, 24, 256, Integer.MAX_VALUE}) {
            fault(x, "number " + number, Bench.more(GOOD, 8, Bench.four(marks[0]), 9, number), 51, 0);
        }
        Bench.due("1", Bench.send(x, 0, 1, Bench.more(GOOD, 8, Bench.four(marks[0]), 9, 1)), 0);
    }

    @Sentence("THE PIN TEST (promise 12): 51 of the number goes before No PIN: 53")
    static void proofWithoutPin() {
        PasskeyHouse x = Bench.house();
        x.press(0);
        fault(x, "no number", Bench.more(GOOD, 8, Bench.four(1)), 51, 0);
        fault(x, "number 2", Bench.more(GOOD, 8, Bench.four(1), 9, 2), 51, 0);
        fault(x, "number 1", Bench.more(GOOD, 8, Bench.four(1), 9, 1), 53, 0);
        fault(x, "one byte", Bench.more(GOOD, 8, Bench.bytes(1), 9, 1), 53, 0);
    }

    @Sentence("THE PIN TEST (promise 12): b is not the MARK of THE TOKEN and hash: 51")
    static void proof() {
        int[] marks = new int[2];
        PasskeyHouse x = withToken(marks);
        x.press(0);
        fault(x, "of another hash", Bench.more(GOOD, 8, Bench.four(marks[1]), 9, 1), 51, 0);
        fault(x, "another term", Bench.more(GOOD, 8, Bench.four(marks[0] - 1), 9, 1), 51, 0);
        fault(x, "no term", Bench.more(GOOD, 8, Bench.four(0), 9, 1), 51, 0);
        byte[][] others = {Bench.bytes(marks[0]), Bench.bytes(0, 0, marks[0]), Bench.bytes(0, Bench.four(marks[0])),
            Bench.bytes(Bench.four(marks[0]), 0)};
        for (byte[] other : others) {
            fault(x, "it, of " + other.length + " bytes", Bench.more(GOOD, 8, other, 9, 1), 51, 0);
        }
        fault(x, "0 where no such MARK was made", Bench.more(Bench.with(GOOD, 1, Bench.four(7)), 8, Bench.four(0), 9, 1), 51, 0);
        x.power(0, false);
        x.power(0, true);
        fault(x, "of the token of before", Bench.more(GOOD, 8, Bench.four(marks[0]), 9, 1), 51, 0);
        Bench.due("unlock", x.unlock(0, 0), 0);
        Bench.lay(x, Bench.four(9));
        int mark = x.seal(0, 3, -1);
        Bench.due("of the token", Bench.send(x, 0, 1, Bench.more(GOOD, 8, Bench.four(mark), 9, 1)), 0);
    }

    @Sentence("THE PIN TEST (promise 12): the token of another key does not pass")
    static void tokenOfOtherKey() {
        int[] marks = new int[1];
        PasskeyHouse x = withToken(marks);
        x.key();
        Bench.setPin(x, 1, 1, "1234");
        Bench.due("unlock", x.unlock(1, 1), 0);
        Bench.lay(x, Bench.four(9));
        int other = x.seal(1, 3, -1);
        Bench.holds("another MARK", other != marks[0]);
        x.press(0);
        fault(x, "of the other key", Bench.more(GOOD, 8, Bench.four(other), 9, 1), 51, 0);
    }

    // ---- what it answers

    @Sentence("MAKE (promise 12): flags 65 (69 if the PIN test was passed)")
    static void flags() {
        int[] marks = new int[1];
        PasskeyHouse x = Bench.house();
        x.press(0);
        Bench.due("without", Bench.send(x, 0, 1, GOOD), 0);
        Bench.due("flags", x.answer(0, 16), 65);
        PasskeyHouse y = withToken(marks);
        y.press(0);
        Bench.due("passed", Bench.send(y, 0, 1, Bench.more(GOOD, 8, Bench.four(marks[0]), 9, 1)), 0);
        Bench.due("flags", y.answer(0, 16), 69);
    }

    @Sentence("MAKE (promise 12): the count (4 bytes: 0 with rk, else the key's own)")
    static void counts() {
        PasskeyHouse x = Bench.house();
        int id = Bench.wrap(x, 0, "a.ex");
        Bench.due("the key's own at first", Bench.answerFour(x, 0, 17), 0);
        Bench.due("sign", Bench.signBy(x, 0, "a.ex", id), 0);
        for (int i = 2; i <= 257; i++) {
            x.command(0, -1);
        }
        x.press(0);
        Bench.due("MAKE", Bench.send(x, 0, 1, GOOD), 0);
        Bench.due("the key's own", Bench.answerFour(x, 0, 17), 257);
        Bench.due("its third byte", x.answer(0, 19), 1);
        x.press(0);
        Bench.due("MAKE with rk", Bench.send(x, 0, 1, KEPT), 0);
        Bench.due("0", Bench.answerFour(x, 0, 17), 0);
    }

    @Sentence("MAKE (promise 12): Terms are made in this order: HASH of the name, the id, and, when all is written, PUBLIC, SIGN")
    static void termsWhenWritten() {
        for (int acts : new int[] {0, 19, 20}) {
            PasskeyHouse x = Bench.house();
            x.press(0);
            x.cut(0, acts);
            Bench.due("MAKE", Bench.send(x, 0, 1, KEPT), acts < 20 ? -3 : 0);
            int[] want = {1, 7, 1, 2, 6};
            Bench.due("terms", x.terms(), acts < 20 ? 3 : 5);
            for (int t = 1; t <= x.terms(); t++) {
                Bench.due("sort of " + t, x.sort(t), want[t - 1]);
            }
        }
        PasskeyHouse y = Bench.house();
        y.press(0);
        y.cut(0, 0);
        Bench.due("without rk nothing is written", Bench.send(y, 0, 1, GOOD), 0);
        int[] want = {1, 7, 8, 2, 6};
        for (int t = 1; t <= want.length; t++) {
            Bench.due("sort of " + t, y.sort(t), want[t - 1]);
        }
    }

    @Sentence("MAKE (promise 12): names and users at their longest and shortest are answered alike")
    static void longestNames() {
        for (int n : new int[] {1, 24}) {
            for (int u : new int[] {1, 8}) {
                PasskeyHouse x = Bench.house();
                x.press(0);
                Bench.Pairs map = Bench.more(Bench.makeMap(9, Bench.text(n), "12345678".substring(0, u)), 7, Bench.map("rk", true));
                Bench.due("MAKE", Bench.send(x, 0, 1, map), 0);
                byte[] data = Bench.bytes(Bench.four(2), 65, Bench.four(0), Bench.four(3), Bench.four(4));
                Bench.holds("its answer", Bench.answers(x, 0, 0,
                    Bench.map(1, "packed", 2, data, 3, Bench.map("alg", -7, "sig", Bench.four(5)))));
                Bench.lay(x, Bench.text(n));
                Bench.due("HASH of the name", x.seal(0, 0, -1), 2);
                Bench.due("bytes of the user", x.credential(0, 0, 3), u);
            }
        }
    }
}
