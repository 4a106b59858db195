import java.util.ArrayList;
import java.util.List;
import java.util.function.Function;

/** Promise 12, == COMMANDS: the boundary cases of the form of messages: statuses 3, 1, 18, 17, 20 and 2, in their order. */
public final class MessageLimitsTest {

    /** An item of each sort of CBOR, and the sort. */
    private static final Object[][] ITEMS = {{0, 1}, {1, -1}, {2, Bench.bytes("abcd")}, {3, "abcd"}, {4, List.of()},
        {5, Bench.map()}, {7, true}, {7, false}};
    private static final Bench.Pairs MAKE = Bench.makeMap(9, "a.ex", "user");
    private static final Bench.Pairs SIGN = Bench.signMap(9, "a.ex");
    private static final Object ALGORITHM = Bench.map("alg", -7, "type", "public-key");
    private static final Object ENTRY = Bench.entry(1);

    /** A place in a message, and the sorts that may stand there. */
    private record Place(String name, int first, Function<Object, Bench.Pairs> message, int... sorts) {
        private boolean takes(int sort) {
            for (int s : sorts) {
                if (s == sort) {
                    return true;
                }
            }
            return false;
        }
    }

    public static void main(String[] args) {
        Bench.run(MessageLimitsTest.class);
    }

    /** The status of a message to a new key with a press that waits; a fault of form takes no press and makes no term. */
    private static int statusOf(Object... message) {
        PasskeyHouse x = Bench.house();
        x.press(0);
        int terms = x.terms();
        int status = Bench.send(x, 0, message);
        boolean isFault = status == 1 || status == 2 || status == 3 || status == 17 || status == 18 || status == 20;
        if (isFault) {
            Bench.holds("the status alone", Bench.answers(x, 0, status));
            Bench.due("no press is taken", x.told(0, 2), 1);
            Bench.due("no term is made", x.terms(), terms);
            Bench.due("no act", x.told(0, 1), 0);
        }
        return status;
    }

    // ---- statuses 3 and 1

    @Sentence("Status 3 (promise 12): the message is empty")
    static void empty() {
        Bench.due("an empty message", statusOf(), 3);
    }

    @Sentence("Status 3 (promise 12): or has bytes behind byte 4, 7 or 8")
    static void bytesBehind() {
        for (int first : new int[] {4, 7, 8}) {
            Bench.due("one byte", statusOf(first, 0), 3);
            Bench.due("an item", statusOf(first, 0xa0), 3);
            Bench.due("itself", statusOf(first, first), 3);
            Bench.due("many", statusOf(first, new byte[399]), 3);
        }
        Bench.due("4 alone", statusOf(4), 0);
        Bench.due("7 alone", statusOf(7), 0);
        Bench.due("8 alone", statusOf(8), 48);
    }

    @Sentence("Status 1 (promise 12): another first byte than 1, 2, 4, 6, 7, 8")
    static void otherFirstByte() {
        for (int first = 0; first < 256; first++) {
            boolean known = first == 1 || first == 2 || first == 4 || first == 6 || first == 7 || first == 8;
            if (!known) {
                Bench.due("first byte " + first, statusOf(first), 1);
                Bench.due("first byte " + first + " and an item", statusOf(first, 0xa0), 1);
            }
        }
        for (int first : new int[] {1, 2, 6}) {
            Bench.due("first byte " + first, statusOf(first), 18);
        }
    }

    // ---- status 17

    private static List<Place> places() {
        List<Place> all = new ArrayList<>();
        all.add(new Place("MAKE 1", 1, v -> Bench.with(MAKE, 1, v), 2));
        all.add(new Place("MAKE 2", 1, v -> Bench.with(MAKE, 2, v), 5));
        all.add(new Place("MAKE 2 id", 1, v -> Bench.with(MAKE, 2, Bench.map("id", v)), 3));
        all.add(new Place("MAKE 3", 1, v -> Bench.with(MAKE, 3, v), 5));
        all.add(new Place("MAKE 3 id", 1, v -> Bench.with(MAKE, 3, Bench.map("id", v)), 2));
        all.add(new Place("MAKE 4", 1, v -> Bench.with(MAKE, 4, v), 4));
        all.add(new Place("MAKE 4, the first", 1, v -> Bench.with(MAKE, 4, List.of(v)), 5));
        all.add(new Place("MAKE 4, the third", 1, v -> Bench.with(MAKE, 4, List.of(ALGORITHM, ALGORITHM, v)), 5));
        all.add(new Place("MAKE 4 alg", 1, v -> Bench.with(MAKE, 4, List.of(Bench.map("alg", v, "type", "x"))), 0, 1));
        all.add(new Place("MAKE 4 alg, the second", 1,
            v -> Bench.with(MAKE, 4, List.of(ALGORITHM, Bench.map("alg", v, "type", "x"))), 0, 1));
        all.add(new Place("MAKE 4 type", 1, v -> Bench.with(MAKE, 4, List.of(Bench.map("alg", -7, "type", v))), 3));
        all.add(new Place("MAKE 5", 1, v -> Bench.more(MAKE, 5, v), 4));
        all.add(new Place("MAKE 5, the first", 1, v -> Bench.more(MAKE, 5, List.of(v)), 5));
        all.add(new Place("MAKE 5, the second", 1, v -> Bench.more(MAKE, 5, List.of(ENTRY, v)), 5));
        all.add(new Place("MAKE 5 id", 1, v -> Bench.more(MAKE, 5, List.of(Bench.map("id", v, "type", "x"))), 2));
        all.add(new Place("MAKE 5 type", 1, v -> Bench.more(MAKE, 5, List.of(Bench.map("id", Bench.four(1), "type", v))), 3));
        all.add(new Place("MAKE 7", 1, v -> Bench.more(MAKE, 7, v), 5));
        all.add(new Place("MAKE 7 rk", 1, v -> Bench.more(MAKE, 7, Bench.map("rk", v)), 7));
        all.add(new Place("MAKE 7 uv", 1, v -> Bench.more(MAKE, 7, Bench.map("uv", v)), 7));
        all.add(new Place("MAKE 8", 1, v -> Bench.more(MAKE, 8, v), 2));
        all.add(new Place("MAKE 9", 1, v -> Bench.more(MAKE, 9, v), 0));
        all.add(new Place("SIGN 1", 2, v -> Bench.with(SIGN, 1, v), 3));
        all.add(new Place("SIGN 2", 2, v -> Bench.with(SIGN, 2, v), 2));
        all.add(new Place("SIGN 3", 2, v -> Bench.more(SIGN, 3, v), 4));
        all.add(new Place("SIGN 3, the first", 2, v -> Bench.more(SIGN, 3, List.of(v)), 5));
        all.add(new Place("SIGN 3, the second", 2, v -> Bench.more(SIGN, 3, List.of(ENTRY, v)), 5));
        all.add(new Place("SIGN 3 id", 2, v -> Bench.more(SIGN, 3, List.of(Bench.map("id", v, "type", "x"))), 2));
        all.add(new Place("SIGN 3 type", 2, v -> Bench.more(SIGN, 3, List.of(Bench.map("id", Bench.four(1), "type", v))), 3));
        all.add(new Place("SIGN 5", 2, v -> Bench.more(SIGN, 5, v), 5));
        all.add(new Place("SIGN 5 up", 2, v -> Bench.more(SIGN, 5, Bench.map("up", v)), 7));
        all.add(new Place("SIGN 5 uv", 2, v -> Bench.more(SIGN, 5, Bench.map("uv", v)), 7));
        all.add(new Place("SIGN 6", 2, v -> Bench.more(SIGN, 6, v), 2));
        all.add(new Place("SIGN 7", 2, v -> Bench.more(SIGN, 7, v), 0));
        all.add(new Place("PIN 1", 6, v -> Bench.map(1, v, 2, 1), 0));
        all.add(new Place("PIN 2", 6, v -> Bench.map(1, 1, 2, v), 0));
        for (int i = 3; i <= 6; i++) {
            int member = i;
            all.add(new Place("PIN " + i, 6, v -> Bench.map(1, 1, 2, 1, member, v), 2));
        }
        return all;
    }

    @Sentence("Status 17 (promise 12): some member that is there is not of its sort (what lies in it, too)")
    static void everySort() {
        for (Place place : places()) {
            for (Object[] item : ITEMS) {
                int status = statusOf(place.first(), place.message().apply(item[1]));
                Bench.due(place.name() + " of sort " + item[0], status == 17, !place.takes((Integer) item[0]));
            }
        }
    }

    @Sentence("Status 17 (promise 12): 17 of any member goes before 20 of any")
    static void sortsBeforeMissing() {
        int[][] firsts = {{1, 2, 3, 4, 5, 7, 8, 9}, {1, 2, 3, 5, 6, 7}, {1, 2, 3, 4, 5, 6}};
        int[] commands = {1, 2, 6};
        for (int c = 0; c < commands.length; c++) {
            for (int member : firsts[c]) {
                Bench.due(commands[c] + " with " + member + " alone, true", statusOf(commands[c], Bench.map(member, true)), 17);
            }
        }
        for (Place place : places()) {
            Bench.Pairs map = place.message().apply(true);
            for (int gone : new int[] {1, 2}) {
                boolean isIt = place.name().matches("[A-Z]+ " + gone + ".*");
                if (!isIt && !place.takes(7)) {
                    Bench.due(place.name() + " without " + gone, statusOf(place.first(), Bench.with(map, gone, null)), 17);
                }
            }
        }
    }

    @Sentence("Status 17 (promise 12): 17 within goes before 20 within")
    static void sortsBeforeMissingWithin() {
        Bench.due("type false, no alg", statusOf(1, Bench.with(MAKE, 4, List.of(Bench.map("type", false)))), 17);
        Bench.due("alg false, no type", statusOf(1, Bench.with(MAKE, 4, List.of(Bench.map("alg", false)))), 17);
        Bench.due("a map without all, then a number", statusOf(1, Bench.with(MAKE, 4, List.of(Bench.map(), 1))), 17);
        Bench.due("type false, no id", statusOf(2, Bench.more(SIGN, 3, List.of(Bench.map("type", false)))), 17);
        Bench.due("an entry without all, then a text", statusOf(2, Bench.more(SIGN, 3, List.of(Bench.map(), ""))), 17);
        Bench.due("no name, uv a number", statusOf(1, Bench.more(Bench.with(MAKE, 2, Bench.map()), 7, Bench.map("uv", 1))), 17);
    }

    @Sentence("Status 17 (promise 12): goes before 2")
    static void sortsBeforeLengths() {
        for (Place place : places()) {
            boolean hasHash = place.first() != 6 && !place.name().equals("MAKE 1") && !place.name().equals("SIGN 2");
            if (hasHash && !place.takes(7)) {
                Bench.Pairs map = Bench.with(place.message().apply(true), place.first() == 1 ? 1 : 2, Bench.bytes("abc"));
                Bench.due(place.name() + " and a short hash", statusOf(place.first(), map), 17);
            }
        }
        Bench.due("PIN 1 is 2, 6 a text", statusOf(6, Bench.map(1, 2, 2, 1, 6, "")), 17);
        Bench.due("PIN 2 is 6, 3 a text", statusOf(6, Bench.map(1, 1, 2, 6, 3, "")), 17);
    }

    // ---- status 20

    @Sentence("Status 20 (promise 12): one that must be there is not")
    static void missing() {
        Bench.due("MAKE of none", statusOf(1, Bench.map()), 20);
        Bench.due("SIGN of none", statusOf(2, Bench.map()), 20);
        Bench.due("PIN of none", statusOf(6, Bench.map()), 20);
        for (int i = 1; i <= 4; i++) {
            Bench.due("MAKE without " + i, statusOf(1, Bench.with(MAKE, i, null)), 20);
        }
        for (int i = 1; i <= 2; i++) {
            Bench.due("SIGN without " + i, statusOf(2, Bench.with(SIGN, i, null)), 20);
            Bench.due("PIN without " + i, statusOf(6, Bench.with(Bench.map(1, 1, 2, 1), i, null)), 20);
        }
        Bench.due("MAKE with these alone", statusOf(1, MAKE), 0);
        Bench.due("SIGN with these alone", statusOf(2, SIGN), 46);
        Bench.due("PIN with these alone", statusOf(6, Bench.map(1, 1, 2, 1)), 0);
    }

    @Sentence("Status 20 (promise 12): In maps within, \"id\", \"alg\" and \"type\" must be there")
    static void missingWithin() {
        Bench.due("no id of the party", statusOf(1, Bench.with(MAKE, 2, Bench.map())), 20);
        Bench.due("no id of the user", statusOf(1, Bench.with(MAKE, 3, Bench.map())), 20);
        Bench.due("no alg", statusOf(1, Bench.with(MAKE, 4, List.of(Bench.map("type", "public-key")))), 20);
        Bench.due("no type", statusOf(1, Bench.with(MAKE, 4, List.of(Bench.map("alg", -7)))), 20);
        Bench.due("no alg of a later one", statusOf(1, Bench.with(MAKE, 4, List.of(ALGORITHM, Bench.map("type", "x")))), 20);
        Bench.due("no type of a later one", statusOf(1, Bench.with(MAKE, 4, List.of(ALGORITHM, Bench.map("alg", 1)))), 20);
        for (int c = 1; c <= 2; c++) {
            Bench.Pairs map = c == 1 ? MAKE : SIGN;
            int list = c == 1 ? 5 : 3;
            Object typed = Bench.map("type", "public-key");
            Object identified = Bench.map("id", Bench.four(1));
            Bench.due("no id of an entry", statusOf(c, Bench.more(map, list, List.of(typed))), 20);
            Bench.due("no type of an entry", statusOf(c, Bench.more(map, list, List.of(identified))), 20);
            Bench.due("no id of a later one", statusOf(c, Bench.more(map, list, List.of(ENTRY, typed))), 20);
            Bench.due("no type of a later one", statusOf(c, Bench.more(map, list, List.of(ENTRY, identified))), 20);
        }
    }

    @Sentence("Status 20 (promise 12): \"rk\", \"up\" and \"uv\" need not be there, nor 5, 7, 8, 9 of MAKE, 3, 5, 6, 7 of SIGN")
    static void needNotBeThere() {
        Bench.due("MAKE, options of none", statusOf(1, Bench.more(MAKE, 7, Bench.map())), 0);
        Bench.due("MAKE, entries of none", statusOf(1, Bench.more(MAKE, 5, List.of())), 0);
        Bench.due("MAKE, 9 without 8", statusOf(1, Bench.more(MAKE, 9, 1)), 0);
        Bench.due("MAKE, 8 without 9", statusOf(1, Bench.more(MAKE, 8, Bench.four(1))), 51);
        Bench.due("SIGN, options of none", statusOf(2, Bench.more(SIGN, 5, Bench.map())), 46);
        Bench.due("SIGN, entries of none", statusOf(2, Bench.more(SIGN, 3, List.of())), 46);
        Bench.due("SIGN, 7 without 6", statusOf(2, Bench.more(SIGN, 7, 1)), 46);
        Bench.due("SIGN, 6 without 7", statusOf(2, Bench.more(SIGN, 6, Bench.four(1))), 51);
    }

    @Sentence("Status 20 (promise 12): and that before 2")
    static void missingBeforeLengths() {
        Bench.Pairs shortHash = Bench.with(MAKE, 1, Bench.bytes());
        for (int i = 2; i <= 4; i++) {
            Bench.due("MAKE, a short hash without " + i, statusOf(1, Bench.with(shortHash, i, null)), 20);
        }
        Bench.due("a short hash, no alg", statusOf(1, Bench.with(shortHash, 4, List.of(Bench.map("type", "x")))), 20);
        Bench.due("a short hash, no id of an entry", statusOf(1, Bench.more(shortHash, 5, List.of(Bench.map()))), 20);
        Bench.due("a long name without 1", statusOf(1, Bench.with(Bench.with(MAKE, 2, Bench.map("id", Bench.text(25))), 1, null)), 20);
        Bench.due("SIGN, a short hash without 1", statusOf(2, Bench.map(2, Bench.bytes())), 20);
        Bench.due("SIGN, no name's bytes without 2", statusOf(2, Bench.map(1, "")), 20);
        Bench.due("SIGN, a short hash, no type", statusOf(2, Bench.map(1, "a", 2, Bench.bytes(), 3, List.of(Bench.map("id", Bench.bytes())))), 20);
        Bench.due("PIN, 1 is 2, without 2", statusOf(6, Bench.map(1, 2)), 20);
        Bench.due("PIN, 2 is 6, without 1", statusOf(6, Bench.map(2, 6)), 20);
    }

    // ---- status 2

    @Sentence("Status 2 (promise 12): hash, 4 bytes")
    static void hashLength() {
        for (int size : new int[] {0, 1, 3, 4, 5, 8, 24, 255, 256}) {
            Bench.due("MAKE, hash of " + size, statusOf(1, Bench.with(MAKE, 1, new byte[size])), size == 4 ? 0 : 2);
            Bench.due("SIGN, hash of " + size, statusOf(2, Bench.with(SIGN, 2, new byte[size])), size == 4 ? 46 : 2);
        }
    }

    @Sentence("Status 2 (promise 12): a text of 1 .. 24 bytes, THE NAME of the party")
    static void nameLength() {
        for (int size : new int[] {0, 1, 2, 23, 24, 25, 26, 255, 256}) {
            boolean good = size >= 1 && size <= 24;
            Bench.due("MAKE, name of " + size, statusOf(1, Bench.with(MAKE, 2, Bench.map("id", Bench.text(size)))), good ? 0 : 2);
            Bench.due("SIGN, name of " + size, statusOf(2, Bench.with(SIGN, 1, Bench.text(size))), good ? 46 : 2);
        }
    }

    @Sentence("Status 2 (promise 12): 1 .. 8 bytes, the user")
    static void userLength() {
        for (int size : new int[] {0, 1, 7, 8, 9, 16, 24, 256}) {
            boolean good = size >= 1 && size <= 8;
            Bench.due("user of " + size, statusOf(1, Bench.with(MAKE, 3, Bench.map("id", new byte[size]))), good ? 0 : 2);
        }
    }

    @Sentence("Status 2 (promise 12): no length is told of an entry's id, a type, 8 of MAKE and 6 of SIGN")
    static void anyLength() {
        for (int size : new int[] {0, 1, 3, 4, 5, 24, 100}) {
            Object entry = Bench.map("id", new byte[size], "type", Bench.text(size));
            Bench.due("MAKE, an entry of " + size, statusOf(1, Bench.more(MAKE, 5, List.of(entry))), 0);
            Bench.due("SIGN, an entry of " + size, statusOf(2, Bench.more(SIGN, 3, List.of(entry))), 46);
        }
        for (int size : new int[] {1, 3, 4, 5, 300}) {
            Bench.due("MAKE, 8 of " + size, statusOf(1, Bench.more(MAKE, 8, new byte[size], 9, 1)), 53);
            Bench.due("SIGN, 6 of " + size, statusOf(2, Bench.more(SIGN, 6, new byte[size], 7, 1)), 53);
        }
    }

    @Sentence("Status 2 (promise 12): goes before all that comes then")
    static void lengthsFirst() {
        Bench.Pairs shortHash = Bench.with(MAKE, 1, Bench.bytes());
        Bench.due("before 38", statusOf(1, Bench.with(shortHash, 4, List.of())), 2);
        Bench.due("before 43", statusOf(1, Bench.more(shortHash, 7, Bench.map("uv", true))), 2);
        Bench.due("before 51", statusOf(1, Bench.more(shortHash, 8, Bench.four(1))), 2);
        Bench.due("before 53", statusOf(1, Bench.more(shortHash, 8, Bench.bytes())), 2);
        Bench.due("SIGN, before 43", statusOf(2, Bench.map(1, "", 2, Bench.four(1), 5, Bench.map("uv", true))), 2);
        Bench.due("SIGN, before 46", statusOf(2, Bench.map(1, "", 2, Bench.four(1))), 2);
        PasskeyHouse x = Bench.house();
        int id = Bench.store(x, 0, "a", "u");
        x.press(0);
        Bench.due("before 25", Bench.send(x, 0, 1, Bench.more(Bench.with(Bench.makeMap(1, "a", "u"), 3, Bench.map("id", Bench.bytes())),
            5, List.of(Bench.entry(id)))), 2);
        Bench.due("no press is taken", x.told(0, 2), 1);
    }

    // ---- members that are passed over

    @Sentence("Members with other keys are passed over (promise 12): numbers, negative ones, and texts")
    static void passedOver() {
        Object[][] values = {{1}, {-1}, {Bench.bytes()}, {""}, {List.of(1, List.of())}, {Bench.map("id", 1)}, {true}};
        for (Object[] v : values) {
            Bench.due("MAKE", statusOf(1, Bench.more(Bench.map(0, v[0]), more(MAKE, 6, v[0], 10, v[0], 24, v[0], 256, v[0], -1, v[0],
                -7, v[0], "", v[0], "1", v[0], "id", v[0]))), 0);
            Bench.due("SIGN", statusOf(2, Bench.more(Bench.map(0, v[0]), more(SIGN, 4, v[0], 8, v[0], 9, v[0], 255, v[0], -2, v[0],
                "up", v[0]))), 46);
            Bench.due("PIN", statusOf(6, Bench.more(Bench.map(0, v[0]), more(Bench.map(1, 1, 2, 1), 7, v[0], 8, v[0], 65536, v[0],
                -1, v[0], -3, v[0], "x", v[0]))), 0);
        }
    }

    private static Object[] more(Bench.Pairs map, Object... parts) {
        return Bench.more(map, parts).parts();
    }

    @Sentence("Members with other keys are passed over (promise 12): a key behind a map is none of that map's")
    static void behindAMap() {
        PasskeyHouse x = Bench.house();
        x.press(0);
        Bench.due("MAKE", Bench.send(x, 0, 1, Bench.more(MAKE, 7, Bench.map(), "rk", true, "uv", true)), 0);
        Bench.due("nothing is stored", x.told(0, 8), 0);
        x.press(0);
        Bench.due("MAKE", Bench.send(x, 0, 1, Bench.more(MAKE, 7, Bench.map("aa", 1), "rk", 1, "uv", 1)), 0);
        Bench.store(x, 0, "a.ex", "user");
        Bench.due("SIGN", Bench.send(x, 0, 2, Bench.more(SIGN, 5, Bench.map(), "up", false, "uv", true)), 39);
        Bench.due("before a map", statusOf(1, Bench.with(Bench.with(MAKE, 2, Bench.map()), 3, Bench.map("id", "a.ex"))), 17);
        Bench.due("in the next entry", statusOf(2, Bench.more(SIGN, 3, List.of(Bench.map("type", "x"), ENTRY))), 20);
    }

    @Sentence("Members with other keys are passed over (promise 12): in maps within, too")
    static void passedOverWithin() {
        Object other = Bench.map(0, true);
        Bench.due("beside the party's id", statusOf(1, Bench.with(MAKE, 2, Bench.map(1, other, -1, other, "i", 1, "ic", 1, "id", "a",
            "ie", 1, "idd", 1))), 0);
        Bench.due("beside the user's id", statusOf(1, Bench.with(MAKE, 3, Bench.map(1, other, "id", Bench.bytes("u"), "name", 1))), 0);
        Bench.due("beside alg and type", statusOf(1, Bench.with(MAKE, 4,
            List.of(Bench.map("ald", 1, "alg", -7, "alh", 1, "type", "public-key", "typf", 1)))), 0);
        Bench.due("beside rk and uv", statusOf(1, Bench.more(MAKE, 7, Bench.map("rj", 1, "rk", false, "up", 1, "uv", false, "uw", 1))), 0);
        Bench.due("beside id and type", statusOf(1, Bench.more(MAKE, 5,
            List.of(Bench.map("ic", 1, "id", Bench.four(1), "ie", 1, "type", "public-key", "typf", 1)))), 0);
        Bench.due("beside up and uv", statusOf(2, Bench.more(SIGN, 5, Bench.map("rk", 1, "up", true, "uv", false))), 46);
    }
}
