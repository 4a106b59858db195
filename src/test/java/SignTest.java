import java.util.List;

/** Promise 12, SIGN and NEXT: faults in their order, candidates, counts, and the list. */
public final class SignTest {

    private static final Bench.Pairs GOOD = Bench.signMap(9, "a.ex");

    public static void main(String[] args) {
        faults();
        order();
        pinTest();
        byEntry();
        byName();
        several();
        endOfList();
        Bench.end();
    }

    private static void status(PasskeyHouse x, String what, Bench.Pairs map, int want) {
        int terms = x.terms();
        int acts = x.told(0, 1);
        Bench.due(what, Bench.send(x, 0, 2, map), want);
        Bench.due(what + ": terms", x.terms(), terms);
        Bench.due(what + ": acts", x.told(0, 1), acts);
        Bench.holds(what + ": the status alone", Bench.answers(x, 0, want));
    }

    private static void faults() {
        PasskeyHouse x = Bench.house();
        status(x, "good", GOOD, 46);
        status(x, "name bytes", Bench.with(GOOD, 1, Bench.bytes("a.ex")), 17);
        status(x, "hash a text", Bench.with(GOOD, 2, "abcd"), 17);
        status(x, "entries a map", Bench.more(GOOD, 3, Bench.map()), 17);
        status(x, "entries of numbers", Bench.more(GOOD, 3, List.of(1)), 17);
        status(x, "id a text", Bench.more(GOOD, 3, List.of(Bench.map("id", "abcd", "type", "x"))), 17);
        status(x, "type bytes", Bench.more(GOOD, 3, List.of(Bench.map("id", Bench.four(1), "type", Bench.four(1)))), 17);
        status(x, "options bytes", Bench.more(GOOD, 5, Bench.bytes()), 17);
        status(x, "up a number", Bench.more(GOOD, 5, Bench.map("up", 1)), 17);
        status(x, "uv a text", Bench.more(GOOD, 5, Bench.map("uv", "x")), 17);
        status(x, "6 a number", Bench.more(GOOD, 6, 1), 17);
        status(x, "7 negative", Bench.more(GOOD, 7, -2), 17);
        status(x, "7 bytes", Bench.more(GOOD, 7, Bench.bytes()), 17);
        status(x, "others", Bench.more(GOOD, 4, Bench.map("up", 1), 8, 1, 9, "x", "id", 1), 46);
        status(x, "no name", Bench.with(GOOD, 1, null), 20);
        status(x, "no hash", Bench.with(GOOD, 2, null), 20);
        status(x, "no id", Bench.more(GOOD, 3, List.of(Bench.map("type", "public-key"))), 20);
        status(x, "no type", Bench.more(GOOD, 3, List.of(Bench.entry(1), Bench.map("id", Bench.four(1)))), 20);
        status(x, "name of 0", Bench.with(GOOD, 1, ""), 2);
        status(x, "name of 24", Bench.with(GOOD, 1, Bench.text(24)), 46);
        status(x, "name of 25", Bench.with(GOOD, 1, Bench.text(25)), 2);
        status(x, "hash of 3", Bench.with(GOOD, 2, Bench.bytes("abc")), 2);
        status(x, "hash of 5", Bench.with(GOOD, 2, Bench.bytes("abcde")), 2);
    }

    private static void order() {
        PasskeyHouse x = Bench.house();
        Bench.Pairs shortHash = Bench.with(GOOD, 2, Bench.bytes());
        status(x, "17 before 20", Bench.more(Bench.with(GOOD, 1, null), 7, "x"), 17);
        status(x, "20 before 2", Bench.with(shortHash, 1, null), 20);
        status(x, "2 before 43", Bench.more(shortHash, 5, Bench.map("uv", true)), 2);
        status(x, "43 before 51", Bench.more(GOOD, 5, Bench.map("uv", true), 6, Bench.four(1)), 43);
        status(x, "51 before 46", Bench.more(GOOD, 6, Bench.four(1)), 51);
        status(x, "46 before 39", GOOD, 46);
        status(x, "uv false", Bench.more(GOOD, 5, Bench.map("uv", false)), 46);
    }

    private static void pinTest() {
        PasskeyHouse x = Bench.house();
        int id = Bench.store(x, 0, "a.ex", "u");
        status(x, "empty, no press", Bench.more(GOOD, 6, Bench.bytes()), 39);
        x.press(0);
        status(x, "empty, no PIN", Bench.more(GOOD, 6, Bench.bytes()), 53);
        status(x, "no PIN", Bench.more(GOOD, 6, Bench.four(1), 7, 1), 53);
        Bench.setPin(x, 0, 0, "1234");
        x.press(0);
        status(x, "empty, a PIN", Bench.more(GOOD, 6, Bench.bytes()), 49);
        Bench.due("unlock", Bench.unlock(x, 0, 0, "1234"), 0);
        Bench.lay(x, Bench.four(9));
        int mark = x.seal(0, 3, -1);
        status(x, "no number", Bench.more(GOOD, 6, Bench.four(mark)), 51);
        status(x, "number 2", Bench.more(GOOD, 6, Bench.four(mark), 7, 2), 51);
        status(x, "another hash", Bench.more(Bench.signMap(8, "a.ex"), 6, Bench.four(mark), 7, 1), 51);
        Bench.due("passed, without a press",
            Bench.send(x, 0, 2, Bench.more(GOOD, 5, Bench.map("up", false), 6, Bench.four(mark), 7, 1)), 0);
        Bench.due("flags", x.answer(0, 34), 4);
        x.press(0);
        Bench.due("passed, with a press", Bench.send(x, 0, 2, Bench.more(GOOD, 6, Bench.four(mark), 7, 1)), 0);
        Bench.due("flags", x.answer(0, 34), 5);
        x.press(0);
        Bench.due("no PIN test though there is a PIN", Bench.send(x, 0, 2, GOOD), 0);
        Bench.due("flags", x.answer(0, 34), 1);
        Bench.due("its id", Bench.answerFour(x, 0, 8), id);
    }

    private static byte[] data(int name, int flags, int count) {
        return Bench.bytes(Bench.four(name), flags, Bench.four(count));
    }

    private static void byEntry() {
        PasskeyHouse x = Bench.house();
        int wrapped = Bench.wrap(x, 0, "a.ex");
        int stored = Bench.store(x, 0, "a.ex", "user");
        int other = Bench.store(x, 0, "b.ex", "user");
        int hash = x.credential(0, 0, 1);
        Bench.Pairs map = Bench.more(GOOD, 3, List.of(Bench.entry(other), Bench.entry(wrapped), Bench.entry(stored)));
        status(x, "no press", map, 39);
        x.press(0);
        Bench.due("the first that is its", Bench.send(x, 0, 2, map), 0);
        Bench.due("SIGN alone is made", x.sort(x.terms()), 6);
        Bench.holds("its answer", Bench.answers(x, 0, 0, Bench.map(1, Bench.entry(wrapped), 2, data(hash, 1, 1),
            3, Bench.four(x.terms()))));
        Bench.due("the key's own count", x.told(0, 11), 1);
        Bench.holds("COUNT", Bench.isRecord(x, 0, 0, x.told(0, 7) - 12, 4, Bench.bytes(Bench.four(0), Bench.four(1))));
        int terms = x.terms();
        Bench.due("up false", Bench.signBy(x, 0, "a.ex", stored), 0);
        Bench.due("one term", x.terms(), terms + 1);
        Bench.holds("its answer", Bench.answers(x, 0, 0, Bench.map(1, Bench.entry(stored), 2, data(hash, 0, 1),
            3, Bench.four(x.terms()))));
        Bench.holds("COUNT", Bench.isRecord(x, 0, 0, x.told(0, 7) - 12, 4, Bench.bytes(Bench.four(stored), Bench.four(1))));
        Bench.due("its count", x.credential(0, 0, 2), 1);
        Bench.due("no list", Bench.send(x, 0, 8), 48);
        int last = Bench.store(x, 0, "a.ex", "last");
        Bench.due("the last by its id", Bench.signBy(x, 0, "a.ex", last), 0);
        Bench.due("no list by an entry", Bench.send(x, 0, 8), 48);
        Bench.Pairs typed = Bench.map("id", Bench.four(wrapped), "type", "public");
        Bench.due("of another type", Bench.send(x, 0, 2,
            Bench.more(GOOD, 3, List.of(typed, Bench.entry(stored)), 5, Bench.map("up", false))), 0);
        Bench.due("the next one", Bench.answerFour(x, 0, 8), stored);
        Bench.due("its count", Bench.answerFour(x, 0, 35), 2);
        status(x, "of another type alone", Bench.more(GOOD, 3, List.of(typed)), 46);
        status(x, "of another party", Bench.more(GOOD, 3, List.of(Bench.entry(other))), 46);
        status(x, "no term", Bench.more(GOOD, 3, List.of(Bench.entry(0), Bench.entry(-1), Bench.entry(1))), 46);
        x.key();
        x.press(1);
        Bench.due("of another key", Bench.send(x, 1, 2, map), 46);
        Bench.due("no press of it is taken", x.told(1, 2), 1);
    }

    private static void byName() {
        PasskeyHouse x = Bench.house();
        int stored = Bench.store(x, 0, "a.ex", "user");
        int wrapped = Bench.wrap(x, 0, "b.ex");
        int hash = x.credential(0, 0, 1);
        status(x, "a wrap is not found by name", Bench.signMap(1, "b.ex"), 46);
        Bench.due("but by its id", Bench.signBy(x, 0, "b.ex", wrapped), 0);
        x.press(0);
        Bench.due("by name", Bench.send(x, 0, 2, GOOD), 0);
        Bench.holds("its answer", Bench.answers(x, 0, 0, Bench.map(1, Bench.entry(stored), 2, data(hash, 1, 1),
            3, Bench.four(x.terms()), 4, Bench.map("id", Bench.bytes("user")))));
        Bench.due("its list is empty", Bench.send(x, 0, 8), 48);
        Bench.due("entries that are none", Bench.send(x, 0, 2, Bench.more(GOOD, 3, List.of(), 5, Bench.map("up", false))), 0);
        Bench.holds("its answer", Bench.answers(x, 0, 0, Bench.map(1, Bench.entry(stored), 2, data(hash, 0, 2),
            3, Bench.four(x.terms()), 4, Bench.map("id", Bench.bytes("user")))));
        x.press(0);
        Bench.due("up true", Bench.send(x, 0, 2, Bench.more(GOOD, 5, Bench.map("up", true))), 0);
        Bench.due("flags", x.answer(0, 34), 1);
    }

    private static void several() {
        PasskeyHouse x = Bench.house();
        int first = Bench.store(x, 0, "a.ex", "1");
        Bench.store(x, 0, "b.ex", "1");
        int second = Bench.store(x, 0, "a.ex", "22");
        int third = Bench.store(x, 0, "a.ex", "333");
        int hash = x.credential(0, 0, 1);
        x.press(0);
        Bench.due("SIGN", Bench.send(x, 0, 2, GOOD), 0);
        Bench.holds("the last one", Bench.answers(x, 0, 0, Bench.map(1, Bench.entry(third), 2, data(hash, 1, 1),
            3, Bench.four(x.terms()), 4, Bench.map("id", Bench.bytes("333")), 5, 3)));
        Bench.due("NEXT", Bench.send(x, 0, 8), 0);
        Bench.holds("the one before", Bench.answers(x, 0, 0, Bench.map(1, Bench.entry(second), 2, data(hash, 1, 1),
            3, Bench.four(x.terms()), 4, Bench.map("id", Bench.bytes("22")))));
        Bench.due("NEXT", Bench.send(x, 0, 8), 0);
        Bench.holds("the first one", Bench.answers(x, 0, 0, Bench.map(1, Bench.entry(first), 2, data(hash, 1, 1),
            3, Bench.four(x.terms()), 4, Bench.map("id", Bench.bytes("1")))));
        Bench.due("at its end", Bench.send(x, 0, 8), 48);
        Bench.due("still", Bench.send(x, 0, 8), 48);
        int[] counts = {1, 0, 1, 1};
        for (int i = 0; i < counts.length; i++) {
            Bench.due("count " + i, x.credential(0, i, 2), counts[i]);
        }
        Bench.due("no press but one", x.told(0, 3), 5);
    }

    private static void endOfList() {
        PasskeyHouse x = Bench.house();
        Bench.store(x, 0, "a.ex", "1");
        Bench.store(x, 0, "a.ex", "2");
        Bench.Pairs map = Bench.more(GOOD, 5, Bench.map("up", false));
        byte[][] messages = {Bench.bytes(), Bench.bytes(4), Bench.bytes(8, 8), Bench.bytes(7), Bench.bytes(3), Bench.bytes(6),
            Bench.bytes(1), Bench.bytes(2, Bench.signMap(1, "none"))};
        for (byte[] message : messages) {
            Bench.due("SIGN", Bench.send(x, 0, 2, map), 0);
            Bench.due("how many", x.answer(0, x.command(0, -1) - 1), 2);
            Bench.holds("a message that is not 8", Bench.send(x, 0, message) != -3);
            Bench.due("the list is ended", Bench.send(x, 0, 8), 48);
        }
        Bench.due("SIGN", Bench.send(x, 0, 2, map), 0);
        x.power(0, false);
        Bench.due("SILENT", Bench.send(x, 0, 8), -3);
        x.power(0, true);
        Bench.due("power ends it", Bench.send(x, 0, 8), 48);
        Bench.due("SIGN", Bench.send(x, 0, 2, map), 0);
        Bench.lay(x, 8, 8);
        Bench.due("NEXT of a part of the tape", x.command(0, 1) > 1, true);
        Bench.due("without how many", x.answer(0, 1), 0xa4);
    }
}
