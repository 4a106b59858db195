import java.util.List;

/** Promise 12, 2 SIGN, 8 NEXT, 4 INFO and 7 RESET: their boundary cases, in the order in which they are told. */
public final class SignLimitsTest {

    private static final Bench.Pairs GOOD = Bench.signMap(9, "a.ex");
    private static final Bench.Pairs UNPRESSED = Bench.more(GOOD, 5, Bench.map("up", false));

    public static void main(String[] args) {
        Bench.run(SignLimitsTest.class);
    }

    /** A key with so many credentials for "a.ex", of users "1", "2", .. */
    private static PasskeyHouse with(int credentials) {
        PasskeyHouse x = Bench.house();
        for (int i = 1; i <= credentials; i++) {
            Bench.store(x, 0, "a.ex", String.valueOf(i));
        }
        return x;
    }

    /** A status other than 0: so many presses are taken by it, no term is made, nothing is written. */
    private static void fault(PasskeyHouse x, String what, Object message, int want, int presses) {
        int terms = x.terms();
        int acts = x.told(0, 1);
        int taken = x.told(0, 3);
        int status = message instanceof Bench.Pairs ? Bench.send(x, 0, 2, message) : Bench.send(x, 0, message);
        Bench.due(what, status, want);
        Bench.holds(what + ": the status alone", Bench.answers(x, 0, want));
        Bench.due(what + ": terms", x.terms(), terms);
        Bench.due(what + ": acts", x.told(0, 1), acts);
        Bench.due(what + ": presses that were taken", x.told(0, 3), taken + presses);
    }

    private static Bench.Pairs listing(Object... entries) {
        return Bench.map(1, "a.ex", 2, Bench.four(9), 3, List.of(entries), 5, Bench.map("up", false));
    }

    private static byte[] data(int name, int flags, int count) {
        return Bench.bytes(Bench.four(name), flags, Bench.four(count));
    }

    // ---- SIGN: the order of statuses

    @Sentence("SIGN (promise 12): uv true: 43, before the PIN test, 46 and 39")
    static void userVerification() {
        PasskeyHouse x = Bench.house();
        Bench.Pairs uv = Bench.more(GOOD, 5, Bench.map("uv", true));
        fault(x, "before 46", uv, 43, 0);
        fault(x, "before 51", Bench.more(uv, 6, Bench.four(1)), 43, 0);
        x.press(0);
        fault(x, "before the press of an empty 6", Bench.more(uv, 6, Bench.bytes()), 43, 0);
        PasskeyHouse y = with(1);
        fault(y, "before 39", uv, 43, 0);
        Bench.due("uv false", Bench.send(y, 0, 2, Bench.more(GOOD, 5, Bench.map("up", false, "uv", false))), 0);
    }

    @Sentence("SIGN (promise 12): With 6 THE PIN TEST: 39, 49, 53, 51 before 46")
    static void pinTestFirst() {
        PasskeyHouse x = Bench.house();
        fault(x, "empty, no press", Bench.more(GOOD, 6, Bench.bytes()), 39, 0);
        x.press(0);
        fault(x, "empty, no PIN", Bench.more(GOOD, 6, Bench.bytes()), 53, 1);
        x.press(0);
        fault(x, "empty, up false", Bench.more(UNPRESSED, 6, Bench.bytes()), 53, 1);
        fault(x, "no number", Bench.more(GOOD, 6, Bench.four(1)), 51, 0);
        fault(x, "number 0", Bench.more(GOOD, 6, Bench.four(1), 7, 0), 51, 0);
        fault(x, "number 2", Bench.more(GOOD, 6, Bench.four(1), 7, 2), 51, 0);
        fault(x, "no PIN", Bench.more(GOOD, 6, Bench.four(1), 7, 1), 53, 0);
        Bench.setPin(x, 0, 0, "1234");
        fault(x, "empty, no press, a PIN", Bench.more(GOOD, 6, Bench.bytes()), 39, 0);
        x.press(0);
        fault(x, "empty, a PIN", Bench.more(GOOD, 6, Bench.bytes()), 49, 1);
        fault(x, "no MARK", Bench.more(GOOD, 6, Bench.four(1), 7, 1), 51, 0);
        fault(x, "without 6 a PIN is not asked for", GOOD, 46, 0);
    }

    @Sentence("SIGN (promise 12): b is the MARK of THE TOKEN and hash, and no other")
    static void proof() {
        PasskeyHouse x = with(1);
        Bench.setPin(x, 0, 0, "1234");
        Bench.due("unlock", x.unlock(0, 0), 0);
        Bench.lay(x, Bench.four(9));
        int mark = x.seal(0, 3, -1);
        Bench.lay(x, Bench.four(8));
        int other = x.seal(0, 3, -1);
        fault(x, "of another hash", Bench.more(UNPRESSED, 6, Bench.four(other), 7, 1), 51, 0);
        fault(x, "of five bytes", Bench.more(UNPRESSED, 6, Bench.bytes(Bench.four(mark), 0), 7, 1), 51, 0);
        Bench.due("it", Bench.send(x, 0, 2, Bench.more(UNPRESSED, 6, Bench.four(mark), 7, 1)), 0);
        Bench.powerOver(x);
        fault(x, "of the token of before", Bench.more(UNPRESSED, 6, Bench.four(mark), 7, 1), 51, 0);
    }

    @Sentence("SIGN (promise 12): None: 46, before 39")
    static void noCandidate() {
        PasskeyHouse x = Bench.house();
        fault(x, "no credential, no press", GOOD, 46, 0);
        x.press(0);
        fault(x, "no credential", GOOD, 46, 0);
        int id = Bench.store(x, 0, "b.ex", "u");
        x.press(0);
        fault(x, "of another name", GOOD, 46, 0);
        fault(x, "an entry of another name", Bench.more(GOOD, 3, List.of(Bench.entry(id))), 46, 0);
        Bench.due("the presses wait", x.told(0, 2), 2);
        int wrapped = Bench.wrap(x, 0, "a.ex");
        fault(x, "a WRAP is no CREDENTIAL", GOOD, 46, 0);
        Bench.due("but by an entry", Bench.send(x, 0, 2, listing(Bench.entry(wrapped))), 0);
    }

    @Sentence("SIGN (promise 12): If up is not false: 39 without a press; one is taken")
    static void press() {
        PasskeyHouse x = with(1);
        fault(x, "no up", GOOD, 39, 0);
        fault(x, "up true", Bench.more(GOOD, 5, Bench.map("up", true)), 39, 0);
        fault(x, "options without up", Bench.more(GOOD, 5, Bench.map("uv", false)), 39, 0);
        x.press(0);
        Bench.due("up false", Bench.send(x, 0, 2, UNPRESSED), 0);
        Bench.due("none is taken", x.told(0, 2), 1);
        Bench.due("flags", x.answer(0, 34), 0);
        Bench.due("no up", Bench.send(x, 0, 2, GOOD), 0);
        Bench.due("one is taken", x.told(0, 2), 0);
        Bench.due("flags", x.answer(0, 34), 1);
        x.press(0);
        Bench.due("up true", Bench.send(x, 0, 2, Bench.more(GOOD, 5, Bench.map("up", true))), 0);
        Bench.due("one is taken", x.told(0, 2), 0);
    }

    @Sentence("SIGN (promise 12): flags (1 if a press was taken, 4 more if the PIN test was passed)")
    static void flags() {
        PasskeyHouse x = with(1);
        Bench.setPin(x, 0, 0, "1234");
        Bench.due("unlock", x.unlock(0, 0), 0);
        Bench.lay(x, Bench.four(9));
        int mark = x.seal(0, 3, -1);
        for (int flags : new int[] {0, 1, 4, 5}) {
            Bench.Pairs map = flags % 2 == 1 ? GOOD : UNPRESSED;
            x.press(0);
            Bench.due("SIGN", Bench.send(x, 0, 2, flags >= 4 ? Bench.more(map, 6, Bench.four(mark), 7, 1) : map), 0);
            Bench.due("flags", x.answer(0, 34), flags);
        }
    }

    // ---- SIGN: candidates

    @Sentence("CANDIDATES (promise 12): if 3 has entries, the first one with type \"public-key\" whose id is of this key")
    static void firstEntry() {
        PasskeyHouse x = with(3);
        int[] ids = {x.credential(0, 0, 0), x.credential(0, 1, 0), x.credential(0, 2, 0)};
        Object typed = Bench.map("id", Bench.four(ids[0]), "type", "public-kex");
        Object longer = Bench.map("id", Bench.bytes(Bench.four(ids[0]), 0), "type", "public-key");
        Object shorter = Bench.map("id", Bench.bytes(ids[0]), "type", "public-key");
        Object none = Bench.map("id", Bench.bytes(), "type", "public-key");
        Object[][] lists = {{Bench.entry(ids[1])}, {Bench.entry(ids[1]), Bench.entry(ids[2])},
            {Bench.entry(0), Bench.entry(-1), Bench.entry(ids[1]), Bench.entry(ids[0])}, {typed, Bench.entry(ids[1])},
            {longer, shorter, none, Bench.entry(ids[1]), Bench.entry(ids[1])}};
        for (Object[] list : lists) {
            Bench.due("SIGN", Bench.send(x, 0, 2, listing(list)), 0);
            Bench.due("the second credential", Bench.answerFour(x, 0, 8), ids[1]);
            Bench.due("no user and no more", x.answer(0, 1), 0xa3);
        }
        for (Object alone : new Object[] {typed, longer, shorter, none, Bench.entry(0), Bench.entry(1)}) {
            fault(x, "it alone", listing(alone), 46, 0);
        }
    }

    @Sentence("CANDIDATES (promise 12): entries that are none of this key's: 46, though there are CREDENTIALS with that name")
    static void entriesOfOthers() {
        PasskeyHouse x = with(2);
        x.key();
        int other = Bench.wrap(x, 1, "a.ex");
        fault(x, "of another key", listing(Bench.entry(other)), 46, 0);
        Bench.due("of it", Bench.send(x, 1, 2, listing(Bench.entry(other))), 0);
    }

    @Sentence("CANDIDATES (promise 12): 3 without entries: all CREDENTIALS with that name, the last one first")
    static void withoutEntries() {
        PasskeyHouse x = with(2);
        Bench.store(x, 0, "b.ex", "1");
        Bench.due("an empty array", Bench.send(x, 0, 2, listing()), 0);
        Bench.due("the last one", Bench.answerFour(x, 0, 8), x.credential(0, 1, 0));
        Bench.due("with user and how many", x.answer(0, 1), 0xa5);
        Bench.due("no 3", Bench.send(x, 0, 2, UNPRESSED), 0);
        Bench.due("the last one", Bench.answerFour(x, 0, 8), x.credential(0, 1, 0));
        Bench.store(x, 0, "a.ex", "1");
        Bench.due("one at its place", Bench.send(x, 0, 2, UNPRESSED), 0);
        Bench.due("is not the last one by that", Bench.answerFour(x, 0, 8), x.credential(0, 1, 0));
    }

    @Sentence("SIGN (promise 12): without entries also 4 the user, and, if there are several, 5 how many")
    static void howMany() {
        for (int many = 1; many <= 6; many++) {
            PasskeyHouse x = with(many);
            if (many < 6) {
                Bench.store(x, 0, "b.ex", "9");
            }
            Bench.due("SIGN", Bench.send(x, 0, 2, UNPRESSED), 0);
            int name = x.credential(0, 0, 1);
            Bench.Pairs map = Bench.map(1, Bench.entry(x.credential(0, many - 1, 0)), 2, data(name, 0, 1),
                3, Bench.four(x.terms()), 4, Bench.map("id", Bench.bytes(String.valueOf(many))));
            Bench.holds("its answer for " + many, Bench.answers(x, 0, 0, many == 1 ? map : Bench.more(map, 5, many)));
        }
    }

    @Sentence("TO SIGN (promise 12): its count (the key's own for a WRAP) is one more, written before")
    static void counts() {
        PasskeyHouse x = with(2);
        int wrapped = Bench.wrap(x, 0, "a.ex");
        int stored = x.credential(0, 0, 0);
        for (int i = 1; i <= 3; i++) {
            Bench.due("by the WRAP", Bench.send(x, 0, 2, listing(Bench.entry(wrapped))), 0);
            Bench.due("count", Bench.answerFour(x, 0, 35), i);
            Bench.due("the key's own", x.told(0, 11), i);
            Bench.due("not the credential's", x.credential(0, 0, 2), i - 1);
            Bench.due("by the CREDENTIAL", Bench.send(x, 0, 2, listing(Bench.entry(stored))), 0);
            Bench.due("count", Bench.answerFour(x, 0, 35), i);
            Bench.due("its own", x.credential(0, 0, 2), i);
            Bench.due("not the key's", x.told(0, 11), i);
        }
        Bench.due("not the other's", x.credential(0, 1, 2), 0);
        int terms = x.terms();
        x.cut(0, 11);
        Bench.due("not written whole", Bench.send(x, 0, 2, listing(Bench.entry(stored))), -3);
        Bench.due("no SIGN", x.terms(), terms);
    }

    @Sentence("TO SIGN (promise 12): the count in DATA has 4 bytes, above 255 too")
    static void countAbove255() {
        PasskeyHouse x = with(1);
        Bench.due("SIGN", Bench.send(x, 0, 2, UNPRESSED), 0);
        for (int i = 2; i <= 256; i++) {
            x.command(0, -1);
        }
        Bench.due("256", Bench.answerFour(x, 0, 35), 256);
        Bench.due("its count", x.credential(0, 0, 2), 256);
        Bench.powerOver(x);
        Bench.due("its count when it woke", x.credential(0, 0, 2), 256);
    }

    // ---- NEXT

    @Sentence("NEXT (promise 12): 48 without a list")
    static void noList() {
        PasskeyHouse x = with(2);
        fault(x, "no list", 8, 48, 0);
        Bench.due("SIGN by an entry", Bench.send(x, 0, 2, listing(Bench.entry(x.credential(0, 1, 0)))), 0);
        fault(x, "an entry makes none", 8, 48, 0);
        fault(x, "SIGN without a candidate", Bench.signMap(1, "none"), 46, 0);
        fault(x, "makes none", 8, 48, 0);
        fault(x, "SIGN without a press", GOOD, 39, 0);
        fault(x, "makes none", 8, 48, 0);
    }

    @Sentence("NEXT (promise 12): or when it is at its end: 48")
    static void endOfList() {
        for (int many = 1; many <= 4; many++) {
            PasskeyHouse x = with(many);
            Bench.due("SIGN", Bench.send(x, 0, 2, UNPRESSED), 0);
            for (int i = many - 2; i >= 0; i--) {
                Bench.due("NEXT", Bench.send(x, 0, 8), 0);
                Bench.due("credential " + i, Bench.answerFour(x, 0, 8), x.credential(0, i, 0));
                Bench.due("with the user, without 5", x.answer(0, 1), 0xa4);
                Bench.due("the user", x.answer(0, 51), '1' + i);
            }
            fault(x, "at its end", 8, 48, 0);
            fault(x, "still", 8, 48, 0);
        }
    }

    @Sentence("NEXT (promise 12): The others are THE LIST then, with hash and flags")
    static void listHasHashAndFlags() {
        PasskeyHouse x = with(2);
        Bench.store(x, 0, "b.ex", "9");
        x.press(0);
        x.press(0);
        Bench.due("SIGN", Bench.send(x, 0, 2, GOOD), 0);
        int name = x.credential(0, 0, 1);
        int terms = x.terms();
        Bench.due("NEXT", Bench.send(x, 0, 8), 0);
        Bench.due("no press is taken", x.told(0, 2), 1);
        Bench.due("flags of the list", x.answer(0, 34), 1);
        Bench.due("HASH", Bench.answerFour(x, 0, 30), name);
        Bench.due("SIGN alone is made", x.terms(), terms + 1);
        Bench.due("counts", x.credential(0, 0, 2) + x.credential(0, 1, 2), 2);
        Bench.due("not of another name", x.credential(0, 2, 2), 0);
        fault(x, "at its end", 8, 48, 0);
    }

    @Sentence("NEXT (promise 12): Any message but the one byte 8 ends the list")
    static void messagesEndList() {
        byte[][] messages = {Bench.bytes(), Bench.bytes(4), Bench.bytes(7), Bench.bytes(8, 0), Bench.bytes(8, 8), Bench.bytes(0),
            Bench.bytes(3), Bench.bytes(255), Bench.bytes(1), Bench.bytes(2), Bench.bytes(6), Bench.bytes(6, Bench.map(1, 1, 2, 1))};
        for (byte[] message : messages) {
            PasskeyHouse x = with(2);
            Bench.due("SIGN", Bench.send(x, 0, 2, UNPRESSED), 0);
            Bench.holds("a message", Bench.send(x, 0, message) >= 0);
            fault(x, "the list is ended", 8, 48, 0);
        }
        PasskeyHouse x = with(2);
        Bench.due("SIGN", Bench.send(x, 0, 2, UNPRESSED), 0);
        Bench.due("SIGN of another list", Bench.send(x, 0, 2, UNPRESSED), 0);
        Bench.due("which is there", Bench.send(x, 0, 8), 0);
    }

    @Sentence("NEXT (promise 12): a message to another key, and one that is refused, do not end the list")
    static void othersKeepList() {
        PasskeyHouse x = with(2);
        x.key();
        Bench.due("SIGN", Bench.send(x, 0, 2, UNPRESSED), 0);
        Bench.due("INFO of another", Bench.send(x, 1, 4), 0);
        Bench.due("refused", x.command(0, 2), -1);
        Bench.due("refused", x.command(0, -2), -1);
        Bench.due("a press", x.press(0), 1);
        Bench.due("NEXT", Bench.send(x, 0, 8), 0);
    }

    @Sentence("NEXT (promise 12): and power ends the list")
    static void powerEndsList() {
        PasskeyHouse x = with(2);
        Bench.due("SIGN", Bench.send(x, 0, 2, UNPRESSED), 0);
        Bench.powerOver(x);
        fault(x, "power ended it", 8, 48, 0);
        PasskeyHouse y = with(3);
        Bench.due("SIGN", Bench.send(y, 0, 2, UNPRESSED), 0);
        y.cut(0, 5);
        Bench.due("power fails by NEXT", Bench.send(y, 0, 8), -3);
        y.power(0, true);
        fault(y, "power ended it", 8, 48, 0);
    }

    // ---- INFO

    @Sentence("INFO (promise 12): whether there is a PIN; 400; and nothing is changed but the list and that a command came")
    static void info() {
        PasskeyHouse x = Bench.house();
        byte[] head = Bench.bytes(0, Bench.hex("a5 01 81 68"), "FIDO_2_0", Bench.hex("03 42 0000 04 a3 62"), "rk", Bench.hex("f5 62"),
            "up", Bench.hex("f5 69"), "clientPin");
        byte[] tail = Bench.hex("05 190190 06 81 01");
        Bench.due("INFO", Bench.send(x, 0, 4), 0);
        Bench.holds("no PIN", Bench.answers(x, 0, head, 0xf4, tail));
        Bench.due("terms", x.terms(), 1);
        Bench.due("acts", x.told(0, 1), 0);
        Bench.setPin(x, 0, 0, "1234");
        Bench.due("INFO", Bench.send(x, 0, 4), 0);
        Bench.holds("a PIN", Bench.answers(x, 0, head, 0xf5, tail));
        Bench.powerOver(x);
        x.press(0);
        Bench.due("RESET", Bench.send(x, 0, 7), 0);
        Bench.due("INFO", Bench.send(x, 0, 4), 0);
        Bench.holds("none again", Bench.answers(x, 0, head, 0xf4, tail));
    }

    // ---- RESET

    @Sentence("RESET (promise 12): A command came since power (any message): 48, before 39, and no press is taken")
    static void resetAfterCommands() {
        byte[][] messages = {Bench.bytes(), Bench.bytes(4), Bench.bytes(8), Bench.bytes(7, 7), Bench.bytes(3), Bench.bytes(6),
            Bench.bytes(6, Bench.map(1, 1, 2, 1))};
        for (byte[] message : messages) {
            PasskeyHouse x = Bench.house();
            Bench.holds("a message", Bench.send(x, 0, message) >= 0);
            fault(x, "without a press", 7, 48, 0);
            x.press(0);
            fault(x, "with a press", 7, 48, 0);
            Bench.powerOver(x);
            Bench.due("since power there was none", Bench.send(x, 0, 7), 0);
        }
    }

    @Sentence("RESET (promise 12): A command came since power (this one not counted)")
    static void resetItself() {
        PasskeyHouse x = Bench.house();
        x.press(0);
        Bench.due("RESET as the first message", Bench.send(x, 0, 7), 0);
        x.press(0);
        fault(x, "a second RESET came behind the first", 7, 48, 0);
        Bench.powerOver(x);
        Bench.due("RESET", Bench.send(x, 0, 7), 0);
    }

    @Sentence("RESET (promise 12): a message to another key, a SILENT one and a refused one are no command since power")
    static void noCommands() {
        PasskeyHouse x = Bench.house();
        x.key();
        Bench.due("to another key", Bench.send(x, 1, 4), 0);
        x.power(0, false);
        Bench.due("SILENT", x.command(0, -1), -3);
        x.power(0, true);
        Bench.due("refused", x.command(0, 2), -1);
        Bench.due("refused", x.command(0, -2), -1);
        x.press(0);
        Bench.due("RESET", Bench.send(x, 0, 7), 0);
    }

    @Sentence("RESET (promise 12): 39 without a press; one is taken")
    static void resetPress() {
        PasskeyHouse x = Bench.house();
        fault(x, "no press", 7, 39, 0);
        Bench.powerOver(x);
        x.press(0);
        x.press(0);
        Bench.due("RESET", Bench.send(x, 0, 7), 0);
        Bench.due("one is taken", x.told(0, 2), 1);
        Bench.due("taken", x.told(0, 3), 1);
    }

    @Sentence("RESET (promise 12): There is nothing but a FRESH master; it moves")
    static void nothingButMaster() {
        PasskeyHouse x = with(3);
        Bench.due("sign", Bench.signBy(x, 0, "a.ex", Bench.wrap(x, 0, "a.ex")), 0);
        Bench.setPin(x, 0, 0, "1234");
        Bench.due("wrong", Bench.unlock(x, 0, 0, "4321"), 49);
        Bench.powerOver(x);
        x.press(0);
        int terms = x.terms();
        int acts = x.told(0, 1);
        Bench.due("RESET", Bench.send(x, 0, 7), 0);
        int[] want = {2, 1, 12, 0, 8, 0, 0};
        for (int what = 5; what <= 11; what++) {
            Bench.due("told " + what, x.told(0, what), want[what - 5]);
        }
        Bench.due("acts", x.told(0, 1), acts + 4 + 8 + 4);
        Bench.due("one term", x.terms(), terms + 1);
        Bench.due("FRESH", x.sort(terms + 1), 1);
        Bench.holds("MASTER", Bench.isRecord(x, 0, 1, 4, 1, Bench.four(terms + 1)));
        Bench.holds("nothing else", Bench.isErased(x, 0, 256 + 12, 512));
    }

    @Sentence("RESET (promise 12): power that fails in its move leaves all that there was")
    static void resetThatFails() {
        for (int acts = 0; acts < 16; acts++) {
            PasskeyHouse x = with(1);
            Bench.setPin(x, 0, 0, "1234");
            Bench.powerOver(x);
            x.press(0);
            x.cut(0, acts);
            Bench.due("RESET", Bench.send(x, 0, 7), -3);
            Bench.due("wakes", x.power(0, true), true);
            Bench.due("credentials with " + acts, x.told(0, 8), 1);
            Bench.due("a PIN", x.told(0, 10), 1);
            Bench.due("generation", x.told(0, 5), 1);
            Bench.due("the press is taken", x.told(0, 2), 0);
        }
    }

    @Sentence("RESET (promise 12): then a new secret to agree with, a new TOKEN, and no wrong ones")
    static void newAfterReset() {
        PasskeyHouse x = Bench.house();
        int own = x.own(0);
        Bench.holds("PUBLIC", own > 0);
        x.press(0);
        Bench.due("RESET", Bench.send(x, 0, 7), 0);
        Bench.store(x, 0, "a", "u");
        Bench.due("1, 2 the key's, 3 the hand's, 4, 5 by RESET, 6 the credential's", x.flash(0, 256 + 12 + 2 + 11), 6);
    }

    // ---- answers

    /** The item of the latest answer is sent back as a PIN message, in which 18 is for what is not canonical. */
    private static void canonicalAnswer(PasskeyHouse x, String what) {
        int size = x.take(0);
        Bench.holds(what + ": at most 400 bytes", size > 1 && size <= 400);
        x.poke(0, 6);
        x.command(0, -1);
        Bench.holds(what + ": canonical", x.answer(0, 0) != 18);
    }

    @Sentence("COMMANDS (promise 12): behind 0 perhaps an item (canonical; at most 400 bytes)")
    static void answersAreCanonical() {
        PasskeyHouse x = Bench.house();
        Bench.due("INFO", Bench.send(x, 0, 4), 0);
        canonicalAnswer(x, "INFO");
        Bench.due("tries", Bench.send(x, 0, 6, Bench.map(1, 1, 2, 1)), 0);
        canonicalAnswer(x, "tries");
        Bench.due("PUBLIC", Bench.send(x, 0, 6, Bench.map(1, 1, 2, 2)), 0);
        canonicalAnswer(x, "PUBLIC");
        for (int i = 0; i < 5; i++) {
            Bench.store(x, 0, "a.ex", "user" + i + "888");
            canonicalAnswer(x, "MAKE");
        }
        int wrapped = Bench.wrap(x, 0, "a.ex");
        canonicalAnswer(x, "MAKE without rk");
        Bench.due("SIGN", Bench.send(x, 0, 2, listing(Bench.entry(wrapped))), 0);
        canonicalAnswer(x, "SIGN by an entry");
        Bench.due("SIGN", Bench.send(x, 0, 2, UNPRESSED), 0);
        canonicalAnswer(x, "SIGN of several");
        Bench.due("SIGN", Bench.send(x, 0, 2, UNPRESSED), 0);
        Bench.due("NEXT", Bench.send(x, 0, 8), 0);
        canonicalAnswer(x, "NEXT");
        Bench.setPin(x, 0, 0, "1234");
        Bench.due("unlock", x.unlock(0, 0), 0);
        canonicalAnswer(x, "SENT");
    }
}
