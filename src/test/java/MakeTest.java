import java.util.List;

/** Promise 12, MAKE: its faults in their order, the PIN test, and what it makes. */
public final class MakeTest {

    private static final Bench.Pairs GOOD = Bench.makeMap(9, "a.ex", "user");

    public static void main(String[] args) {
        sorts();
        missing();
        lengths();
        order();
        excluded();
        algorithms();
        options();
        pinTest();
        wrapped();
        stored();
        room();
        Bench.end();
    }

    /** Without a press a message that has no fault is answered by 39, so nothing is made. */
    private static void status(PasskeyHouse x, String what, Bench.Pairs map, int want) {
        int terms = x.terms();
        Bench.due(what, Bench.send(x, 0, 1, map), want);
        Bench.due(what + ": terms", x.terms(), terms);
        Bench.holds(what + ": the status alone", Bench.answers(x, 0, want));
    }

    private static void sorts() {
        PasskeyHouse x = Bench.house();
        status(x, "good", GOOD, 39);
        status(x, "hash a text", Bench.with(GOOD, 1, "abcd"), 17);
        status(x, "party a text", Bench.with(GOOD, 2, "a.ex"), 17);
        status(x, "party an array", Bench.with(GOOD, 2, List.of()), 17);
        status(x, "name bytes", Bench.with(GOOD, 2, Bench.map("id", Bench.bytes("a.ex"))), 17);
        status(x, "user bytes", Bench.with(GOOD, 3, Bench.bytes("user")), 17);
        status(x, "user's id a text", Bench.with(GOOD, 3, Bench.map("id", "user")), 17);
        status(x, "algorithms a map", Bench.with(GOOD, 4, Bench.map()), 17);
        status(x, "an algorithm a number", Bench.with(GOOD, 4, List.of(-7)), 17);
        status(x, "alg a text", Bench.with(GOOD, 4, List.of(Bench.map("alg", "-7", "type", "public-key"))), 17);
        status(x, "alg true", Bench.with(GOOD, 4, List.of(Bench.map("alg", true, "type", "public-key"))), 17);
        status(x, "type bytes", Bench.with(GOOD, 4, List.of(Bench.map("alg", -7, "type", Bench.bytes("public-key")))), 17);
        status(x, "excluded a map", Bench.more(GOOD, 5, Bench.map()), 17);
        status(x, "excluded of numbers", Bench.more(GOOD, 5, List.of(1)), 17);
        status(x, "excluded id a text", Bench.more(GOOD, 5, List.of(Bench.map("id", "abcd", "type", "x"))), 17);
        status(x, "excluded type a number", Bench.more(GOOD, 5, List.of(Bench.map("id", Bench.four(1), "type", 1))), 17);
        status(x, "the second one", Bench.more(GOOD, 5, List.of(Bench.entry(1), 1)), 17);
        status(x, "options an array", Bench.more(GOOD, 7, List.of()), 17);
        status(x, "rk a number", Bench.more(GOOD, 7, Bench.map("rk", 1)), 17);
        status(x, "uv a number", Bench.more(GOOD, 7, Bench.map("uv", 0)), 17);
        status(x, "8 a text", Bench.more(GOOD, 8, "abcd"), 17);
        status(x, "9 negative", Bench.more(GOOD, 8, Bench.four(1), 9, -1), 17);
        status(x, "9 bytes, without 8", Bench.more(GOOD, 9, Bench.four(1)), 17);
        status(x, "9 alone", Bench.more(GOOD, 9, 1), 39);
        status(x, "other members", Bench.more(GOOD, 6, 1, 10, List.of(), -1, true, "x", 1), 39);
        status(x, "other options", Bench.more(GOOD, 7, Bench.map("ab", 1)), 39);
        status(x, "6 is no member", Bench.more(GOOD, 6, Bench.map("rk", 1)), 39);
    }

    private static void missing() {
        PasskeyHouse x = Bench.house();
        for (int i = 1; i <= 4; i++) {
            status(x, "without " + i, Bench.with(GOOD, i, null), 20);
        }
        status(x, "nothing", Bench.map(), 20);
        status(x, "no name", Bench.with(GOOD, 2, Bench.map()), 20);
        for (String name : new String[] {"ie", "jd", "i", "idd", ""}) {
            status(x, "another name", Bench.with(GOOD, 2, Bench.map(name, "a.ex")), 20);
        }
        status(x, "more than one", Bench.with(GOOD, 2, Bench.map("ic", 1, "id", "a.ex", "name", 1)), 39);
        status(x, "no user", Bench.with(GOOD, 3, Bench.map()), 20);
        status(x, "no alg", Bench.with(GOOD, 4, List.of(Bench.map("type", "public-key"))), 20);
        status(x, "no type", Bench.with(GOOD, 4, List.of(Bench.map("alg", -7))), 20);
        status(x, "no excluded id", Bench.more(GOOD, 5, List.of(Bench.map("type", "public-key"))), 20);
        status(x, "no excluded type", Bench.more(GOOD, 5, List.of(Bench.entry(1), Bench.map("id", Bench.four(1)))), 20);
        status(x, "no options", Bench.more(GOOD, 7, Bench.map()), 39);
        status(x, "none excluded", Bench.more(GOOD, 5, List.of()), 39);
    }

    private static void lengths() {
        PasskeyHouse x = Bench.house();
        status(x, "hash of 3", Bench.with(GOOD, 1, Bench.bytes("abc")), 2);
        status(x, "hash of 5", Bench.with(GOOD, 1, Bench.bytes("abcde")), 2);
        status(x, "hash of 0", Bench.with(GOOD, 1, Bench.bytes()), 2);
        status(x, "name of 0", Bench.with(GOOD, 2, Bench.map("id", "")), 2);
        status(x, "name of 24", Bench.with(GOOD, 2, Bench.map("id", Bench.text(24))), 39);
        status(x, "name of 25", Bench.with(GOOD, 2, Bench.map("id", Bench.text(25))), 2);
        status(x, "user of 0", Bench.with(GOOD, 3, Bench.map("id", Bench.bytes())), 2);
        status(x, "user of 1", Bench.with(GOOD, 3, Bench.map("id", Bench.bytes("u"))), 39);
        status(x, "user of 8", Bench.with(GOOD, 3, Bench.map("id", Bench.bytes("12345678"))), 39);
        status(x, "user of 9", Bench.with(GOOD, 3, Bench.map("id", Bench.bytes("123456789"))), 2);
    }

    private static void order() {
        PasskeyHouse x = Bench.house();
        Bench.Pairs shortHash = Bench.with(GOOD, 1, Bench.bytes("abc"));
        status(x, "17 before 20 and 2", Bench.more(Bench.with(shortHash, 2, null), 9, "x"), 17);
        status(x, "20 before 2", Bench.with(shortHash, 4, null), 20);
        status(x, "20 within before 2", Bench.more(shortHash, 5, List.of(Bench.map())), 20);
        status(x, "2 before 38", Bench.with(shortHash, 4, List.of()), 2);
        status(x, "38 before 43", Bench.more(Bench.with(GOOD, 4, List.of()), 7, Bench.map("uv", true)), 38);
        status(x, "43 before 51", Bench.more(GOOD, 7, Bench.map("uv", true), 8, Bench.four(1)), 43);
        status(x, "51 before 39", Bench.more(GOOD, 8, Bench.four(1)), 51);
        Bench.setPin(x, 0, 0, "1234");
        status(x, "43 before 54", Bench.more(GOOD, 7, Bench.map("uv", true)), 43);
        status(x, "54 before 39", GOOD, 54);
    }

    private static void excluded() {
        PasskeyHouse x = Bench.house();
        int stored = Bench.store(x, 0, "a.ex", "u");
        int wrapped = Bench.wrap(x, 0, "a.ex");
        int other = Bench.store(x, 0, "b.ex", "u");
        x.key();
        for (int id : new int[] {stored, wrapped}) {
            Bench.Pairs map = Bench.more(GOOD, 5, List.of(Bench.entry(other), Bench.entry(id)));
            status(x, "excluded without a press", map, 39);
            x.press(0);
            int taken = x.told(0, 3);
            status(x, "excluded", map, 25);
            Bench.due("a press is taken", x.told(0, 3), taken + 1);
            x.press(0);
            status(x, "before 38", Bench.with(map, 4, List.of()), 25);
        }
        Bench.Pairs typed = Bench.more(GOOD, 5, List.of(Bench.map("id", Bench.four(stored), "type", "public-kex")));
        status(x, "of another type", typed, 39);
        status(x, "of another type, and no algorithm", Bench.with(typed, 4, List.of()), 38);
        status(x, "of another party", Bench.with(Bench.more(GOOD, 5, List.of(Bench.entry(other))), 4, List.of()), 38);
        Bench.Pairs fifth = Bench.map("id", Bench.bytes(Bench.four(stored), 0), "type", "public-key");
        status(x, "an id of 5 bytes", Bench.with(Bench.more(GOOD, 5, List.of(fifth)), 4, List.of()), 38);
        status(x, "no term", Bench.with(Bench.more(GOOD, 5, List.of(Bench.entry(-1), Bench.entry(0))), 4, List.of()), 38);
        Bench.Pairs atOther = Bench.with(Bench.more(GOOD, 5, List.of(Bench.entry(stored), Bench.entry(wrapped))), 4, List.of());
        Bench.due("of another key", Bench.send(x, 1, 1, atOther), 38);
        Bench.Pairs unknown = Bench.with(atOther, 2, Bench.map("id", "never"));
        status(x, "a name that has no HASH", unknown, 38);
    }

    private static void algorithms() {
        PasskeyHouse x = Bench.house();
        Object good = Bench.map("alg", -7, "type", "public-key");
        status(x, "none", Bench.with(GOOD, 4, List.of()), 38);
        status(x, "-8", Bench.with(GOOD, 4, List.of(Bench.map("alg", -8, "type", "public-key"))), 38);
        status(x, "-6", Bench.with(GOOD, 4, List.of(Bench.map("alg", -6, "type", "public-key"))), 38);
        status(x, "6", Bench.with(GOOD, 4, List.of(Bench.map("alg", 6, "type", "public-key"))), 38);
        status(x, "7", Bench.with(GOOD, 4, List.of(Bench.map("alg", 7, "type", "public-key"))), 38);
        for (String type : new String[] {"public", "public-keys", "qublic-key", "public-kex", ""}) {
            status(x, "type " + type, Bench.with(GOOD, 4, List.of(Bench.map("alg", -7, "type", type))), 38);
        }
        status(x, "the second one", Bench.with(GOOD, 4, List.of(Bench.map("alg", -8, "type", "public-key"), good)), 39);
        status(x, "the first one", Bench.with(GOOD, 4, List.of(good, Bench.map("alg", -8, "type", "x"))), 39);
    }

    private static void options() {
        PasskeyHouse x = Bench.house();
        status(x, "uv true", Bench.more(GOOD, 7, Bench.map("uv", true)), 43);
        status(x, "uv false", Bench.more(GOOD, 7, Bench.map("uv", false)), 39);
        status(x, "rk true, uv true", Bench.more(GOOD, 7, Bench.map("rk", true, "uv", true)), 43);
        x.press(0);
        Bench.due("rk false", Bench.send(x, 0, 1, Bench.more(GOOD, 7, Bench.map("rk", false))), 0);
        Bench.due("none is stored", x.told(0, 8), 0);
    }

    private static void pinTest() {
        PasskeyHouse x = Bench.house();
        byte[] none = Bench.bytes();
        status(x, "empty, no press", Bench.more(GOOD, 8, none), 39);
        x.press(0);
        status(x, "empty, no PIN", Bench.more(GOOD, 8, none), 53);
        Bench.due("a press was taken", x.told(0, 3), 1);
        x.press(0);
        status(x, "no number", Bench.more(GOOD, 8, Bench.four(1)), 51);
        status(x, "number 2", Bench.more(GOOD, 8, Bench.four(1), 9, 2), 51);
        status(x, "no PIN", Bench.more(GOOD, 8, Bench.four(1), 9, 1), 53);
        Bench.due("no press was taken", x.told(0, 3), 1);
        Bench.setPin(x, 0, 0, "1234");
        status(x, "empty, a PIN", Bench.more(GOOD, 8, none, 9, 1), 49);
        Bench.due("a press was taken", x.told(0, 3), 2);
        Bench.due("unlock", Bench.unlock(x, 0, 0, "1234"), 0);
        Bench.lay(x, Bench.four(9));
        int mark = x.seal(0, 3, -1);
        Bench.lay(x, Bench.four(8));
        int otherMark = x.seal(0, 3, -1);
        x.press(0);
        status(x, "no number, a PIN", Bench.more(GOOD, 8, Bench.four(mark)), 51);
        status(x, "number 0", Bench.more(GOOD, 8, Bench.four(mark), 9, 0), 51);
        status(x, "of another hash", Bench.more(GOOD, 8, Bench.four(otherMark), 9, 1), 51);
        status(x, "five bytes", Bench.more(GOOD, 8, Bench.bytes(Bench.four(mark), 0), 9, 1), 51);
        status(x, "one byte", Bench.more(GOOD, 8, Bench.bytes(0), 9, 1), 51);
        status(x, "no MARK of it is made", Bench.more(Bench.with(GOOD, 1, Bench.four(7)), 8, Bench.four(0), 9, 1), 51);
        status(x, "no PIN test", GOOD, 54);
        Bench.due("a press waits", x.told(0, 2), 1);
        Bench.due("passed", Bench.send(x, 0, 1, Bench.more(GOOD, 8, Bench.four(mark), 9, 1)), 0);
        Bench.due("flags", x.answer(0, 16), 69);
        status(x, "passed, no press", Bench.more(GOOD, 8, Bench.four(mark), 9, 1), 39);
        x.power(0, false);
        x.power(0, true);
        x.press(0);
        status(x, "the token of earlier", Bench.more(GOOD, 8, Bench.four(mark), 9, 1), 51);
    }

    private static void wrapped() {
        PasskeyHouse x = Bench.house();
        x.press(0);
        x.press(0);
        Bench.due("MAKE", Bench.send(x, 0, 1, GOOD), 0);
        Bench.due("terms", x.terms(), 5);
        int[] sorts = {1, 7, 8, 2, 6};
        for (int i = 0; i < sorts.length; i++) {
            Bench.due("term " + (i + 1), x.sort(i + 1), sorts[i]);
        }
        byte[] data = Bench.bytes(Bench.four(2), 65, Bench.four(0), Bench.four(3), Bench.four(4));
        Bench.holds("its answer", Bench.answers(x, 0, 0,
            Bench.map(1, "packed", 2, data, 3, Bench.map("alg", -7, "sig", Bench.four(5)))));
        Bench.due("no acts", x.told(0, 1), 0);
        Bench.due("a press was taken", x.told(0, 2), 1);
        Bench.lay(x, "a.ex");
        Bench.due("HASH of the name", x.seal(0, 0, -1), 2);
        Bench.due("sign", Bench.signBy(x, 0, "a.ex", 3), 0);
        Bench.due("the same party again", Bench.send(x, 0, 1, GOOD), 0);
        Bench.due("terms of these", x.terms(), 5 + 1 + 3);
        Bench.due("another id", Bench.answerFour(x, 0, 21), 7);
        Bench.due("the key's own count", Bench.answerFour(x, 0, 17), 1);
        Bench.due("its HASH", Bench.answerFour(x, 0, 12), 2);
    }

    private static void stored() {
        PasskeyHouse x = Bench.house();
        x.press(0);
        Bench.Pairs map = Bench.more(GOOD, 7, Bench.map("rk", true));
        Bench.due("MAKE", Bench.send(x, 0, 1, map), 0);
        int[] sorts = {1, 7, 1, 2, 6};
        for (int i = 0; i < sorts.length; i++) {
            Bench.due("term " + (i + 1), x.sort(i + 1), sorts[i]);
        }
        byte[] data = Bench.bytes(Bench.four(2), 65, Bench.four(0), Bench.four(3), Bench.four(4));
        Bench.holds("its answer", Bench.answers(x, 0, 0,
            Bench.map(1, "packed", 2, data, 3, Bench.map("alg", -7, "sig", Bench.four(5)))));
        Bench.holds("CREDENTIAL", Bench.isRecord(x, 0, 0, 12, 5,
            Bench.bytes(Bench.four(3), Bench.four(2), Bench.four(3), "user")));
        Bench.due("acts", x.told(0, 1), 20);
        Bench.due("where records end", x.told(0, 7), 32);
        Bench.due("credentials", x.told(0, 8), 1);
        Bench.due("sign", Bench.signBy(x, 0, "a.ex", 3), 0);
        Bench.due("its count", x.credential(0, 0, 2), 1);
        int second = Bench.store(x, 0, "a.ex", "other");
        x.press(0);
        Bench.due("the same party and user", Bench.send(x, 0, 1, map), 0);
        Bench.due("credentials", x.told(0, 8), 2);
        Bench.due("it stands at its place", x.credential(0, 0, 0), Bench.answerFour(x, 0, 21));
        Bench.due("its count", x.credential(0, 0, 2), 0);
        Bench.due("the other", x.credential(0, 1, 0), second);
        Bench.due("count in DATA", Bench.answerFour(x, 0, 17), 0);
        Bench.due("the one before is gone", Bench.signBy(x, 0, "a.ex", 3), 46);
    }

    private static void room() {
        PasskeyHouse x = Bench.house();
        String eight = "12345678";
        Bench.store(x, 0, "a", eight);
        Bench.store(x, 0, "b", eight);
        Bench.store(x, 0, "c", eight);
        Bench.store(x, 0, "d", "u");
        Bench.store(x, 0, "e", "u");
        x.press(0);
        status(x, "257", Bench.more(Bench.makeMap(1, "f", "uu"), 7, Bench.map("rk", true)), 40);
        Bench.due("the press is taken", x.told(0, 2), 0);
        status(x, "39 before 40", Bench.more(Bench.makeMap(1, "f", "uu"), 7, Bench.map("rk", true)), 39);
        Bench.store(x, 0, "f", "u");
        Bench.due("256", x.told(0, 8), 6);
        x.press(0);
        status(x, "no room", Bench.more(Bench.makeMap(1, "g", "u"), 7, Bench.map("rk", true)), 40);
        x.press(0);
        status(x, "the user of another party", Bench.more(Bench.makeMap(1, "g", eight), 7, Bench.map("rk", true)), 40);
        x.press(0);
        status(x, "the party with another user", Bench.more(Bench.makeMap(1, "a", "u"), 7, Bench.map("rk", true)), 40);
        int again = Bench.store(x, 0, "b", eight);
        Bench.due("at its place", x.credential(0, 1, 0), again);
        Bench.due("six still", x.told(0, 8), 6);
        Bench.due("without rk there is room", Bench.wrap(x, 0, "g") > 0, true);
    }
}
