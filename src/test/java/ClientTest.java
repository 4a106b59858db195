/** Promises 25 to 29: what clients send, in which order terms are made, and what they bring back. */
public final class ClientTest {

    public static void main(String[] args) {
        settingPins();
        changingPins();
        unlocking();
        creating();
        creatingWithAccounts();
        creatingWithToken();
        getting();
        gettingNext();
        foreign();
        silent();
        Bench.end();
    }

    private static PasskeyHouse house(String page) {
        PasskeyHouse x = new PasskeyHouse();
        x.key();
        Bench.lay(x, page);
        x.page(0, page.length());
        return x;
    }

    private static void sorts(PasskeyHouse x, String what, int from, int... want) {
        Bench.due(what + ": terms", x.terms(), from + want.length);
        for (int i = 0; i < want.length; i++) {
            Bench.due(what + ": term " + (from + 1 + i), x.sort(from + 1 + i), want[i]);
        }
    }

    private static void settingPins() {
        PasskeyHouse x = house("a");
        Bench.lay(x, "1234");
        x.pin(0, 4);
        Bench.due("setPin", x.setPin(0, 0), 0);
        sorts(x, "PUBLIC, PUBLIC, AGREED, ENC, MAC, HASH", 1, 2, 2, 3, 4, 5, 7);
        Bench.holds("the tape stays", Bench.tapeIs(x, "1234"));
        Bench.due("two messages", x.told(0, 4), 2);
        Bench.due("a PIN", x.told(0, 10), 1);
        Bench.due("again", x.setPin(0, 0), 51);
        sorts(x, "the key's PUBLIC and HASH are there", 7, 2, 3, 4, 5);
        PasskeyHouse y = house("a");
        Bench.due("none typed", y.setPin(1, 0), 55);
        sorts(y, "all but HASH", 1, 2, 2, 3, 4, 5);
        Bench.lay(y, "123");
        y.pin(1, 3);
        Bench.due("too short", y.setPin(1, 0), 55);
        Bench.due("no PIN", y.told(0, 10), 0);
    }

    private static void changingPins() {
        PasskeyHouse x = house("a");
        Bench.lay(x, "567812");
        Bench.due("no PIN", x.changePin(0, 0, 4), 53);
        sorts(x, "PUBLIC, PUBLIC, AGREED, ENC, HASH, ENC, MAC", 1, 2, 2, 3, 4, 7, 4, 5);
        Bench.setPin(x, 0, 0, "1234");
        Bench.lay(x, "567812");
        int terms = x.terms();
        Bench.due("change", x.changePin(0, 0, 4), 0);
        sorts(x, "PUBLIC, AGREED, ENC, ENC, MAC, HASH", terms, 2, 3, 4, 4, 5, 7);
        Bench.holds("the tape stays", Bench.tapeIs(x, "567812"));
        Bench.due("the old one", x.changePin(0, 0, 4), 49);
        Bench.due("unlock by the new one", Bench.unlock(x, 0, 0, "5678"), 0);
        Bench.lay(x, "1234567890123");
        terms = x.terms();
        Bench.due("n 13", x.changePin(0, 0, 13), -1);
        Bench.due("n -1", x.changePin(0, 0, -1), -1);
        Bench.due("hand 4", x.changePin(4, 0, 4), -1);
        Bench.due("key 1", x.changePin(0, 1, 4), -1);
        Bench.lay(x, "123");
        Bench.due("not so many", x.changePin(0, 0, 4), -1);
        Bench.due("no terms", x.terms(), terms);
        Bench.due("too short", x.changePin(0, 0, 3), 55);
        Bench.due("n 0", x.changePin(0, 0, 0), 55);
        Bench.lay(x, "1234567890123");
        Bench.due("n 12", x.changePin(0, 0, 12), 0);
        Bench.due("unlock", Bench.unlock(x, 0, 0, "123456789012"), 0);
    }

    private static void unlocking() {
        PasskeyHouse x = house("a");
        Bench.due("no PIN", Bench.unlock(x, 0, 0, "1234"), 53);
        Bench.setPin(x, 0, 0, "1234");
        int terms = x.terms();
        Bench.lay(x, "tape");
        Bench.due("unlock", x.unlock(0, 0), 0);
        sorts(x, "PUBLIC, AGREED, ENC, SENT", terms, 2, 3, 4, 9);
        Bench.holds("the tape stays", Bench.tapeIs(x, "tape"));
        int mark = x.seal(0, 3, -1);
        Bench.due("a token", x.sort(mark), 10);
        Bench.due("wrong", Bench.unlock(x, 0, 0, "12345"), 49);
        Bench.due("no token by a new secret", x.seal(0, 3, 0), -1);
        Bench.due("another hand", Bench.unlock(x, 1, 0, "1234"), 0);
        Bench.lay(x, "tape");
        Bench.due("the same token", x.seal(1, 3, -1), mark);
        Bench.due("the first again", Bench.unlock(x, 0, 0, "1234"), 0);
        x.power(0, false);
        x.power(0, true);
        Bench.due("with power", Bench.unlock(x, 0, 0, "1234"), 0);
        Bench.lay(x, "tape");
        Bench.due("another token", x.seal(0, 3, -1) != mark, true);
        Bench.due("the old one of the other hand", x.seal(1, 3, -1), mark);
    }

    private static void creating() {
        PasskeyHouse x = house("www.a.ex");
        Bench.lay(x, "a.exmore");
        Bench.due("no press", x.create(0, 0, 77, -1, 0x4142, 2, 4, 0), 39);
        sorts(x, "HASH of client data", 1, 7);
        Bench.holds("the tape stays", Bench.tapeIs(x, "a.exmore"));
        x.press(0);
        Bench.due("create", x.create(0, 0, 77, -1, 0x4142, 2, 4, 0), 0);
        sorts(x, "HASH, WRAP, PUBLIC, SIGN", 2, 7, 8, 2, 6);
        byte[] data = Bench.bytes(Bench.four(3), 65, Bench.four(0), Bench.four(4), Bench.four(5));
        Bench.holds("the response", Bench.tapeIs(x, 1, Bench.four(77), 8, "www.a.ex", Bench.four(4), 17, data, Bench.four(6)));
        Bench.lay(x, 1, Bench.four(77), "www.a.ex");
        Bench.due("the HASH of the client data", x.seal(0, 0, -1), 2);
        x.press(0);
        Bench.lay(x, "ex");
        Bench.due("with rk, a lesser name", x.create(0, 0, -9, -1, -1L, 8, 2, 1), 0);
        sorts(x, "HASH, HASH, FRESH, PUBLIC, SIGN", 6, 7, 7, 1, 2, 6);
        Bench.due("a credential", x.told(0, 8), 1);
        Bench.due("its user", x.credential(0, 0, 3), 8);
        Bench.due("its byte", x.credential(0, 0, 11), 255);
        Bench.due("the challenge", x.at(1), 255);
        Bench.due("its last byte", x.at(4), 247);
        x.press(0);
        Bench.lay(x, "ex");
        Bench.due("challenge 0 without a party", x.create(0, 0, 0, -1, 1, 1, 2, 0), 0);
        Bench.holds("it is 0", x.at(1) + x.at(2) + x.at(3) + x.at(4) == 0);
    }

    /** A party with the origin and name "a.ex" and an account of the user 7, which the key has. */
    private static PasskeyHouse withAccount() {
        PasskeyHouse x = house("a.ex");
        Bench.lay(x, "a.exa.ex");
        Bench.due("party", x.party(4, 4), 0);
        Bench.due("account", join(x, 7, 0), 0);
        return x;
    }

    private static int join(PasskeyHouse x, long user, int how) {
        Bench.due("offer", x.offer(0, user, 1, false, false) > 0, true);
        x.press(0);
        Bench.lay(x, "a.ex");
        Bench.due("create", x.create(0, 0, 0, 0, user, 1, 4, how), 0);
        return x.judge(0, -1);
    }

    private static void creatingWithAccounts() {
        PasskeyHouse x = withAccount();
        x.press(0);
        Bench.lay(x, "a.ex");
        Bench.due("its account is excluded", x.create(0, 0, 5, 0, 7, 1, 4, 0), 25);
        x.press(0);
        Bench.due("another user is not", x.create(0, 0, 5, 0, 8, 1, 4, 0), 0);
        Bench.lay(x, "a.ex");
        x.press(0);
        Bench.due("the same byte, longer", x.create(0, 0, 5, 0, 7, 2, 4, 0), 0);
        Bench.lay(x, "a.ex");
        x.press(0);
        Bench.due("how & 4", x.create(0, 0, 5, 0, 7, 1, 4, 4), 0);
        Bench.lay(x, "a.ex");
        x.press(0);
        Bench.due("no party", x.create(0, 0, 5, -1, 7, 1, 4, 0), 0);
        Bench.lay(x, "a.ex");
        x.press(0);
        Bench.due("higher bytes of w do not count", x.create(0, 0, 5, 0, 0x4000000107L, 1, 4, 0), 25);
        Bench.due("an account of another user", join(x, 8, 0), 0);
        x.press(0);
        Bench.lay(x, "a.ex");
        Bench.due("its own accounts alone are told", x.create(0, 0, 5, 0, 7, 1, 4, 0), 25);
        Bench.lay(x, "a.ex");
        Bench.due("for get too", x.get(0, 0, 5, 0, 7, 1, 4, 1), 0);
        Bench.due("its own id", x.at(13), x.account(0, 0, 0));
        Bench.lay(x, "a.ex");
        Bench.due("and the other's", x.get(0, 0, 5, 0, 8, 1, 4, 1), 0);
        Bench.due("its own id", x.at(13), x.account(0, 1, 0));
        Bench.due("a second account", join(x, 7, 4), 0);
        Bench.due("a third", join(x, 7, 5), 0);
        x.press(0);
        Bench.lay(x, "a.ex");
        Bench.due("one of three is excluded", x.create(0, 0, 5, 0, 7, 1, 4, 1), 25);
        for (int i = 0; i < 4; i++) {
            Bench.due("more", join(x, 7, 4), 0);
        }
        Bench.due("eight", x.account(0, -1, 0), 8);
        x.press(0);
        Bench.lay(x, "a.ex");
        Bench.due("seven are told", x.create(0, 0, 5, 0, 7, 1, 4, 3), 25);
        x.key();
        x.press(1);
        Bench.due("not of another key", x.create(0, 1, 5, 0, 7, 1, 4, 1), 0);
    }

    private static void creatingWithToken() {
        PasskeyHouse x = withAccount();
        Bench.lay(x, "a.ex");
        Bench.due("how & 2 without a token", x.create(0, 0, 5, -1, 7, 1, 4, 2), 39);
        Bench.setPin(x, 0, 0, "1234");
        Bench.lay(x, "a.ex");
        Bench.due("no token by setPin", x.create(0, 0, 5, -1, 7, 1, 4, 2), 54);
        Bench.due("unlock", Bench.unlock(x, 0, 0, "1234"), 0);
        Bench.lay(x, "a.ex");
        Bench.due("a token, but not how & 2", x.create(0, 0, 5, -1, 7, 1, 4, 0), 54);
        Bench.due("how 1 too", x.create(0, 0, 5, -1, 7, 1, 4, 1), 54);
        Bench.due("how 5 too", x.create(0, 0, 5, -1, 7, 1, 4, 5), 54);
        int terms = x.terms();
        Bench.due("passed, no press", x.create(0, 0, 6, -1, 7, 1, 4, 2), 39);
        sorts(x, "HASH, MARK", terms, 7, 10);
        x.press(0);
        Bench.due("passed", x.create(0, 0, 6, -1, 7, 1, 4, 3), 0);
        Bench.due("flags", x.at(19), 69);
        x.power(0, false);
        x.power(0, true);
        Bench.lay(x, "a.ex");
        Bench.due("an old token", x.create(0, 0, 6, -1, 7, 1, 4, 2), 51);
        Bench.due("for get too", x.get(0, 0, 6, -1, 7, 1, 4, 2), 51);
    }

    private static void getting() {
        PasskeyHouse x = withAccount();
        int id = x.account(0, 0, 0);
        Bench.lay(x, "a.ex");
        Bench.due("no press", x.get(0, 0, 5, 0, 7, 1, 4, 0), 39);
        Bench.due("by name there is none", x.get(0, 0, 5, 0, 7, 1, 4, 8), 46);
        Bench.due("of another user", x.get(0, 0, 5, 0, 8, 1, 4, 0), 46);
        Bench.due("without a party", x.get(0, 0, 5, -1, 7, 1, 4, 0), 46);
        x.press(0);
        int terms = x.terms();
        Bench.due("get", x.get(0, 0, 6, 0, 7, 1, 4, 0), 0);
        sorts(x, "HASH, SIGN", terms, 7, 6);
        Bench.lay(x, "a.ex");
        int hash = x.seal(0, 0, -1);
        Bench.due("get without a press", x.get(0, 0, 6, 0, 7, 1, 4, 1), 0);
        byte[] data = Bench.bytes(Bench.four(hash), 0, Bench.four(2));
        Bench.holds("the response", Bench.tapeIs(x, 2, Bench.four(6), 4, "a.ex", Bench.four(id), 9, data, Bench.four(x.terms())));
        Bench.lay(x, 2, Bench.four(6), "a.ex");
        Bench.due("the HASH of the client data", x.seal(0, 0, -1), terms + 1);
        Bench.lay(x, "a.ex");
        Bench.due("how & 2 without a token", x.get(0, 0, 6, 0, 7, 1, 4, 3), 0);
        Bench.due("flags", x.at(19), 0);
        Bench.setPin(x, 0, 0, "1234");
        Bench.due("unlock", Bench.unlock(x, 0, 0, "1234"), 0);
        Bench.lay(x, "a.ex");
        Bench.due("a token, but not how & 2", x.get(0, 0, 6, 0, 7, 1, 4, 1), 0);
        Bench.due("flags", x.at(19), 0);
        Bench.lay(x, "a.ex");
        Bench.due("get by the PIN", x.get(0, 0, 6, 0, 7, 1, 4, 3), 0);
        Bench.due("flags", x.at(19), 4);
        x.press(0);
        Bench.lay(x, "a.ex");
        Bench.due("get by the PIN and a press", x.get(0, 0, 6, 0, 7, 1, 4, 2), 0);
        Bench.due("flags", x.at(19), 5);
        int challenge = x.offer(0, 7, 1, true, true);
        int latest = x.offer(0, 7, 1, false, true);
        Bench.lay(x, "a.ex");
        Bench.due("challenge 0", x.get(0, 0, 0, 0, 7, 1, 4, 1), 0);
        Bench.due("that of the latest offer", x.at(4), latest & 255);
        Bench.due("not of the one before", challenge != latest, true);
        x.withdraw(0);
        Bench.lay(x, "a.ex");
        Bench.due("challenge 0, no offer", x.get(0, 0, 0, 0, 7, 1, 4, 1), 0);
        Bench.due("0", x.at(4), 0);
    }

    private static void gettingNext() {
        PasskeyHouse x = house("a.ex");
        int first = Bench.store(x, 0, "a.ex", "1");
        int second = Bench.store(x, 0, "a.ex", "2");
        Bench.lay(x, "a.ex");
        Bench.due("no list", x.get(0, 0, 5, -1, 7, 1, 4, 4), 48);
        Bench.due("get", x.get(0, 0, 5, -1, 7, 1, 4, 1), 0);
        Bench.due("the last one", x.at(13), second);
        int terms = x.terms();
        Bench.lay(x, "a.ex");
        Bench.due("next, with a challenge of its own", x.get(0, 0, 6, -1, 9, 2, 4, 15), 0);
        sorts(x, "SIGN alone", terms, 6);
        Bench.holds("the response", Bench.tapeIs(x, 2, Bench.four(6), 4, "a.ex", Bench.four(first), 9,
            Bench.four(x.credential(0, 0, 1)), 0, Bench.four(1), Bench.four(terms + 1)));
        Bench.lay(x, "a.ex");
        Bench.due("at its end", x.get(0, 0, 5, -1, 7, 1, 4, 4), 48);
        Bench.holds("the tape stays", Bench.tapeIs(x, "a.ex"));
        Bench.due("get", x.get(0, 0, 5, -1, 7, 1, 4, 1), 0);
        Bench.due("setPin is two messages more", x.setPin(0, 0), 55);
        Bench.lay(x, "a.ex");
        Bench.due("they ended it", x.get(0, 0, 5, -1, 7, 1, 4, 4), 48);
        Bench.lay(x, "z");
        Bench.due("NEXT too is FOREIGN", x.get(0, 0, 5, -1, 7, 1, 1, 4), -2);
    }

    private static void foreign() {
        PasskeyHouse x = house("www.a.ex");
        String[] names = {"www.a.ex", "a.ex", "ex", "ww.a.ex", ".a.ex", "xa.ex", "a.e", "www", "www.a.ex.ex", "x", "w.a.ex"};
        int[] due = {46, 46, 46, -2, -2, -2, -2, -2, -2, -2, -2};
        for (int i = 0; i < names.length; i++) {
            int n = Bench.lay(x, names[i]);
            Bench.due("name " + names[i], x.get(0, 0, 5, -1, 7, 1, n, 0), due[i]);
        }
        for (int n = 22; n <= 24; n++) {
            Bench.lay(x, Bench.text(n));
            x.page(2, n);
            Bench.due("a name of " + n, x.get(2, 0, 5, -1, 7, 1, n, 0), 46);
            Bench.due("for create too", x.create(2, 0, 5, -1, 7, 1, n, 0), 39);
        }
        Bench.lay(x, "a");
        Bench.due("no page", x.get(1, 0, 5, -1, 7, 1, 1, 0), -2);
        Bench.lay(x, ".a");
        x.page(1, 2);
        Bench.lay(x, "a");
        Bench.due("a point and the name", x.get(1, 0, 5, -1, 7, 1, 1, 0), 46);
    }

    private static void silent() {
        PasskeyHouse x = house("a.ex");
        Bench.setPin(x, 0, 0, "1234");
        Bench.due("unlock", Bench.unlock(x, 0, 0, "1234"), 0);
        x.power(0, false);
        int terms = x.terms();
        Bench.due("setPin", x.setPin(0, 0), -3);
        sorts(x, "PUBLIC alone", terms, 2);
        Bench.due("nothing agreed", x.seal(0, 1, 0), -1);
        Bench.due("changePin", x.changePin(0, 0, 0), -3);
        sorts(x, "PUBLIC alone", terms + 1, 2);
        Bench.due("unlock", x.unlock(0, 0), -3);
        sorts(x, "PUBLIC alone", terms + 2, 2);
        Bench.lay(x, "a.ex");
        terms = x.terms();
        Bench.due("create", x.create(0, 0, 5, -1, 7, 1, 4, 0), -3);
        sorts(x, "HASH alone", terms, 7);
        Bench.due("get", x.get(0, 0, 5, -1, 7, 1, 4, 0), -3);
        Bench.due("next", x.get(0, 0, 5, -1, 7, 1, 4, 4), -3);
        Bench.holds("the tape stays", Bench.tapeIs(x, "a.ex"));
        x.power(0, true);
        x.cut(0, 3);
        Bench.due("it went off by the second message", Bench.unlock(x, 0, 0, "1234"), -3);
        Bench.due("no token", x.seal(0, 3, 0), -1);
        Bench.due("but it agreed", x.seal(0, 1, 0) > 0, true);
        Bench.due("answers", Bench.answers(x, 0), true);
    }
}
