/** Promises 30 to 34: parties, offers, judging, accounts. */
public final class PartyTest {

    private static final int AT_ID = 10;
    private static final int AT_DATA = 15;

    public static void main(String[] args) {
        parties();
        offers();
        notResponses();
        challenges();
        origins();
        createFaults();
        createFull();
        getFaults();
        counts();
        pins();
        accounts();
        next();
        users();
        unmade();
        Bench.end();
    }

    private static void parties() {
        PasskeyHouse x = new PasskeyHouse();
        Bench.lay(x, "www.a.exa.exmore");
        Bench.due("n 0", x.party(0, 4), -1);
        Bench.due("m 0", x.party(8, 0), -1);
        Bench.due("n -1", x.party(-1, 4), -1);
        Bench.due("not right", x.party(8, 5), -1);
        Bench.due("not right", x.party(8, 3), -1);
        Bench.due("not so many", x.party(8, 9), -1);
        Bench.due("none was made", x.account(0, -1, 0), -1);
        Bench.due("a party", x.party(8, 4), 0);
        Bench.due("no terms", x.terms(), 0);
        Bench.holds("the tape stays", Bench.tapeIs(x, "www.a.exa.exmore"));
        Bench.lay(x, "xa.exa.ex");
        Bench.due("no point", x.party(5, 4), -1);
        Bench.lay(x, ".a.exa.ex");
        Bench.due("a point and the name", x.party(5, 4), 1);
        Bench.lay(x, "a.exwww.a.ex");
        Bench.due("a name that is longer", x.party(4, 8), -1);
        String origin = "x".repeat(15) + "." + Bench.text(24);
        Bench.lay(x, origin, Bench.text(24));
        Bench.due("n 40, m 24", x.party(40, 24), 2);
        String longer = "x" + origin;
        Bench.lay(x, longer, Bench.text(24));
        Bench.due("n 41", x.party(41, 24), -1);
        Bench.lay(x, Bench.text(25), Bench.text(25));
        Bench.due("m 25", x.party(25, 25), -1);
        Bench.lay(x, "aa");
        Bench.due("one byte each", x.party(1, 1), 3);
        Bench.due("a fifth", x.party(1, 1), -1);
        Bench.due("four there are", x.account(3, -1, 0), 0);
        Bench.due("no fifth", x.account(4, -1, 0), -1);
    }

    private static void offers() {
        PasskeyHouse x = house();
        Bench.due("party 1", x.offer(1, 7, 1, true, false), -1);
        Bench.due("party -1", x.offer(-1, 7, 1, true, false), -1);
        Bench.due("m 0", x.offer(0, 7, 0, true, false), -1);
        Bench.due("m 9", x.offer(0, 7, 9, true, false), -1);
        Bench.due("no terms", x.terms(), 1);
        for (int i = 0; i < 4; i++) {
            Bench.due("offers", x.account(0, -1, 1), i);
            Bench.due("offer", x.offer(0, 7, 1 + 2 * i, i > 1, false), 2 + i);
            Bench.due("FRESH", x.sort(2 + i), 1);
        }
        Bench.due("a fifth", x.offer(0, 7, 1, true, false), -1);
        Bench.due("no term", x.terms(), 5);
        Bench.due("withdraw of party 1", x.withdraw(1), -1);
        Bench.due("withdraw of party -1", x.withdraw(-1), -1);
        Bench.due("withdraw", x.withdraw(0), 4);
        Bench.due("none", x.account(0, -1, 1), 0);
        Bench.due("withdraw again", x.withdraw(0), 0);
        Bench.due("offer", x.offer(0, 7, 8, true, false), 6);
        Bench.due("a challenge that is gone", judge(x, 1, 2), 2);
    }

    /** A key, and a party whose origin and name are "a.ex", at which hand 0 is. */
    private static PasskeyHouse house() {
        PasskeyHouse x = new PasskeyHouse();
        x.key();
        Bench.lay(x, "a.exa.ex");
        Bench.due("party", x.party(4, 4), 0);
        x.page(0, 4);
        return x;
    }

    /** A response of the right form with a challenge, and nothing else that is right. */
    private static int judge(PasskeyHouse x, int kind, int challenge) {
        Bench.lay(x, kind, Bench.four(challenge), 4, "a.ex", Bench.four(0), 0, Bench.four(0));
        return x.judge(0, -1);
    }

    private static int create(PasskeyHouse x, long user, boolean pin, int how) {
        int challenge = x.offer(0, user, 1, false, pin);
        x.press(0);
        Bench.lay(x, "a.ex");
        Bench.due("create", x.create(0, 0, challenge, -1, user, 1, 4, how), 0);
        return challenge;
    }

    private static void get(PasskeyHouse x, long user, boolean pin, int how) {
        int challenge = x.offer(0, user, 1, true, pin);
        x.press(0);
        Bench.lay(x, "a.ex");
        Bench.due("get", x.get(0, 0, challenge, 0, 7, 1, 4, how), 0);
    }

    private static void notResponses() {
        PasskeyHouse x = house();
        Bench.due("party 1", x.judge(1, -1), -1);
        Bench.due("party -1", x.judge(-1, -1), -1);
        Bench.lay(x, "abc");
        Bench.due("n 4", x.judge(0, 4), -1);
        Bench.due("n -2", x.judge(0, -2), -1);
        Bench.due("none counted", x.account(0, -1, 3), 0);
        Bench.due("three bytes", x.judge(0, -1), 1);
        Bench.due("no bytes", x.judge(0, 0), 1);
        create(x, 7, false, 0);
        Bench.due("kind", x.poke(0, 3), 1);
        Bench.due("kind 3", x.judge(0, -1), 1);
        x.poke(0, 0);
        Bench.due("kind 0", x.judge(0, -1), 1);
        x.poke(0, 1);
        int size = 15 + 4 + 17;
        for (int n = 0; n < size; n++) {
            Bench.due("a part", x.judge(0, n), 1);
        }
        x.feed(0, 1);
        Bench.due("a byte behind", x.judge(0, -1), 1);
        x.poke(5, 5);
        Bench.due("another n", x.judge(0, size), 1);
        x.poke(5, 255);
        Bench.due("a great n", x.judge(0, size), 1);
        x.poke(5, 4);
        x.poke(14, 18);
        Bench.due("another n of DATA", x.judge(0, size), 1);
        x.poke(14, 17);
        Bench.due("others", x.account(0, -1, 3), 2 + 2 + size + 1 + 3);
        Bench.due("offers", x.account(0, -1, 1), 1);
        Bench.due("a response", x.judge(0, size), 0);
        Bench.due("took", x.account(0, -1, 2), 1);
    }

    private static void challenges() {
        PasskeyHouse x = house();
        int one = x.offer(0, 7, 1, false, false);
        int two = x.offer(0, 7, 1, true, false);
        int three = x.offer(0, 7, 1, false, false);
        Bench.due("of no offer", judge(x, 1, three + 1), 2);
        Bench.due("of the other sort", judge(x, 1, two), 2);
        Bench.due("of the other sort", judge(x, 2, one), 2);
        Bench.due("these stay", x.account(0, -1, 1), 3);
        Bench.due("of its sort", judge(x, 2, two), 4);
        Bench.due("it is gone", x.account(0, -1, 1), 2);
        Bench.due("so it is of none", judge(x, 2, two), 2);
        int four = x.offer(0, 7, 1, true, false);
        Bench.due("the others stay", judge(x, 1, three), 4);
        Bench.due("the others stay", judge(x, 1, one), 4);
        Bench.due("a later one", judge(x, 2, four), 4);
        Bench.due("none is left", x.account(0, -1, 1), 0);
        int[] all = new int[4];
        for (int i = 0; i < 4; i++) {
            all[i] = x.offer(0, 7, 1, true, false);
        }
        for (int i : new int[] {1, 3, 0, 2}) {
            Bench.due("one of four", judge(x, 2, all[i]), 4);
            Bench.due("it is gone", judge(x, 2, all[i]), 2);
        }
        Bench.due("none is left", x.account(0, -1, 1), 0);
        Bench.lay(x, "a.exa.ex");
        Bench.due("another party", x.party(4, 4), 1);
        int five = x.offer(1, 7, 1, true, false);
        Bench.due("of another party", judge(x, 2, five), 2);
        Bench.due("others", x.account(0, -1, 3), 17);
        Bench.due("of the other", x.account(1, -1, 3), 0);
    }

    private static void origins() {
        String[] origins = {"a.ey", "b.ex", "a.e", "a.exx", "", "www.a.ex"};
        for (String origin : origins) {
            PasskeyHouse x = house();
            int challenge = x.offer(0, 7, 1, false, false);
            Bench.lay(x, 1, Bench.four(challenge), origin.length(), origin, Bench.four(0), 0, Bench.four(0));
            Bench.due("origin " + origin, x.judge(0, -1), 3);
            Bench.due("the offer is gone", x.account(0, -1, 1), 0);
        }
        PasskeyHouse x = house();
        int challenge = x.offer(0, 7, 1, false, false);
        Bench.lay(x, "www.a.ex");
        x.page(0, 8);
        x.press(0);
        Bench.lay(x, "a.ex");
        Bench.due("on a page within", x.create(0, 0, challenge, 0, 7, 1, 4, 0), 0);
        Bench.due("is another origin", x.judge(0, -1), 3);
    }

    private static int poked(int at, int value) {
        PasskeyHouse x = house();
        create(x, 7, false, 0);
        x.poke(at, value);
        int got = x.judge(0, -1);
        Bench.due("the offer is gone", x.account(0, -1, 1), 0);
        Bench.due("no account", x.account(0, -1, 0), got == 0 ? 1 : 0);
        return got;
    }

    private static void createFaults() {
        Bench.due("nothing", poked(0, 1), 0);
        Bench.due("HASH of the name", poked(AT_DATA + 3, 99), 5);
        Bench.due("its high byte", poked(AT_DATA, 1), 5);
        Bench.due("no flags", poked(AT_DATA + 4, 0), 6);
        Bench.due("without 1", poked(AT_DATA + 4, 64), 6);
        Bench.due("without 64", poked(AT_DATA + 4, 1), 6);
        Bench.due("without both", poked(AT_DATA + 4, 4 + 128), 6);
        Bench.due("another flag more", poked(AT_DATA + 4, 65 + 128), 8);
        Bench.due("with 4", poked(AT_DATA + 4, 69), 8);
        Bench.due("another count", poked(AT_DATA + 8, 1), 8);
        Bench.due("another id in DATA", poked(AT_DATA + 12, 1), 8);
        Bench.due("another id", poked(AT_ID + 3, 1), 8);
        Bench.due("no PUBLIC", poked(AT_DATA + 16, 1), 8);
        Bench.due("no term", poked(AT_DATA + 16, 250), 8);
        Bench.due("another signature", poked(AT_DATA + 20, 1), 8);
        Bench.due("no signature", poked(AT_DATA + 17, 1), 8);
        PasskeyHouse x = house();
        int challenge = create(x, 7, false, 0);
        byte[] data = new byte[17];
        for (int i = 0; i < 17; i++) {
            data[i] = (byte) x.at(AT_DATA + i);
        }
        byte[] id = new byte[] {data[9], data[10], data[11], data[12]};
        int own = x.own(1);
        System.arraycopy(Bench.four(own), 0, data, 13, 4);
        Bench.lay(x, 1, Bench.four(challenge), "a.ex");
        int hash = x.seal(1, 0, -1);
        Bench.lay(x, data, Bench.four(hash));
        int signature = x.seal(1, 4, -1);
        Bench.lay(x, 1, Bench.four(challenge), 4, "a.ex", id, 17, data, Bench.four(signature));
        Bench.due("signed by a hand, with its own PUBLIC", x.judge(0, -1), 0);
        Bench.due("its PUBLIC", x.account(0, 0, 1), own);
        for (int size : new int[] {0, 9, 16, 18}) {
            PasskeyHouse y = house();
            int asked = y.offer(0, 7, 1, false, false);
            Bench.lay(y, 1, Bench.four(asked), 4, "a.ex", Bench.four(1), size, new byte[size], Bench.four(1));
            Bench.due("DATA of " + size, y.judge(0, -1), 4);
        }
        PasskeyHouse z = house();
        int asked = z.offer(0, 7, 1, false, false);
        int terms = z.terms();
        Bench.lay(z, 1, Bench.four(asked), 4, "a.ex", Bench.four(1), 17, new byte[17], Bench.four(0));
        Bench.due("HASH of the name is no term", z.judge(0, -1), 5);
        Bench.due("none is made", z.terms(), terms);
    }

    private static void createFull() {
        PasskeyHouse x = house();
        for (int i = 0; i < 8; i++) {
            create(x, i, false, 0);
            Bench.due("an account", x.judge(0, -1), 0);
        }
        Bench.due("eight", x.account(0, -1, 0), 8);
        create(x, 9, false, 0);
        Bench.due("a ninth", x.judge(0, -1), 10);
        Bench.due("eight still", x.account(0, -1, 0), 8);
        Bench.due("took", x.account(0, -1, 2), 8);
        Bench.due("others", x.account(0, -1, 3), 1);
        int id = x.account(0, 3, 0);
        int secretPublic = x.account(0, 3, 1);
        forge(x, id, secretPublic);
        Bench.due("an id that an account has", x.judge(0, -1), 9);
    }

    /** A response for create by hand 1 that has the id of another account; its own PUBLIC is in it. */
    private static void forge(PasskeyHouse x, int id, int other) {
        int challenge = x.offer(0, 1, 1, false, false);
        Bench.lay(x, "a.ex");
        int name = x.seal(1, 0, -1);
        int own = x.own(1);
        Bench.holds("another PUBLIC", own != other);
        byte[] data = Bench.bytes(Bench.four(name), 65, Bench.four(0), Bench.four(id), Bench.four(own));
        Bench.lay(x, 1, Bench.four(challenge), "a.ex");
        int hash = x.seal(1, 0, -1);
        Bench.lay(x, data, Bench.four(hash));
        int signature = x.seal(1, 4, -1);
        Bench.lay(x, 1, Bench.four(challenge), 4, "a.ex", Bench.four(id), 17, data, Bench.four(signature));
    }

    private static int pokedGet(int at, int value) {
        PasskeyHouse x = house();
        create(x, 7, false, 1);
        Bench.due("an account", x.judge(0, -1), 0);
        get(x, 7, false, 0);
        x.poke(at, value);
        int got = x.judge(0, -1);
        Bench.due("the offer is gone", x.account(0, -1, 1), 0);
        Bench.due("logins", x.account(0, 0, 3), got == 0 ? 1 : 0);
        Bench.due("count", x.account(0, 0, 2), got == 0 ? 1 : 0);
        return got;
    }

    private static void getFaults() {
        Bench.due("nothing", pokedGet(0, 2), 0);
        Bench.due("the other sort", kindOfGet(), 2);
        Bench.due("HASH of the name", pokedGet(AT_DATA + 3, 99), 5);
        Bench.due("no press", pokedGet(AT_DATA + 4, 4), 6);
        Bench.due("more flags", pokedGet(AT_DATA + 4, 65), 8);
        Bench.due("another id", pokedGet(AT_ID + 3, 1), 11);
        Bench.due("another count", pokedGet(AT_DATA + 8, 2), 8);
        Bench.due("another signature", pokedGet(AT_DATA + 12, 1), 8);
        PasskeyHouse x = house();
        create(x, 7, false, 1);
        Bench.due("an account", x.judge(0, -1), 0);
        get(x, 8, false, 0);
        Bench.due("an offer to another user", x.judge(0, -1), 11);
        int challenge = x.offer(0, 7, 2, true, false);
        x.press(0);
        Bench.lay(x, "a.ex");
        Bench.due("get", x.get(0, 0, challenge, 0, 7, 1, 4, 0), 0);
        Bench.due("a longer user", x.judge(0, -1), 11);
        challenge = x.offer(0, 7, 1, true, false);
        Bench.lay(x, "a.ex");
        Bench.due("get", x.get(0, 0, challenge, 0, 7, 1, 4, 1), 0);
        Bench.due("without a press", x.judge(0, -1), 6);
        for (int size : new int[] {0, 8, 10, 17}) {
            int asked = x.offer(0, 7, 1, true, false);
            Bench.lay(x, 2, Bench.four(asked), 4, "a.ex", Bench.four(1), size, new byte[size], Bench.four(1));
            Bench.due("DATA of " + size, x.judge(0, -1), 4);
        }
        get(x, 7, false, 0);
        Bench.due("get", x.judge(0, -1), 0);
        Bench.due("again", x.judge(0, -1), 2);
    }

    private static int kindOfGet() {
        PasskeyHouse x = house();
        create(x, 7, false, 1);
        Bench.due("an account", x.judge(0, -1), 0);
        get(x, 7, false, 0);
        x.poke(0, 1);
        int got = x.judge(0, -1);
        Bench.due("that one stays", x.account(0, -1, 1), 1);
        x.poke(0, 2);
        Bench.due("and is met", x.judge(0, -1), 0);
        return got;
    }

    /** An account of hand 1, which signs what it will, with a count; then a login with another count. */
    private static int login(int had, int count) {
        PasskeyHouse x = new PasskeyHouse();
        Bench.lay(x, "a.exa.ex");
        Bench.due("party", x.party(4, 4), 0);
        int name = x.seal(1, 0, 4);
        int own = x.own(1);
        for (int kind = 1; kind <= 2; kind++) {
            int challenge = x.offer(0, -1, 8, kind == 2, false);
            byte[] head = Bench.bytes(Bench.four(name), kind == 1 ? 65 : 1, Bench.four(kind == 1 ? had : count));
            byte[] data = kind == 1 ? Bench.bytes(head, Bench.four(77), Bench.four(own)) : head;
            Bench.lay(x, kind, Bench.four(challenge), "a.ex");
            int hash = x.seal(1, 0, -1);
            Bench.lay(x, data, Bench.four(hash));
            int signature = x.seal(1, 4, -1);
            Bench.lay(x, kind, Bench.four(challenge), 4, "a.ex", Bench.four(77), data.length, data, Bench.four(signature));
            int got = x.judge(0, -1);
            if (kind == 2) {
                Bench.due("count", x.account(0, 0, 2), got == 0 ? count : had);
                Bench.due("logins", x.account(0, 0, 3), got == 0 ? 1 : 0);
                return got;
            }
            Bench.due("create", got, 0);
            Bench.due("count", x.account(0, 0, 2), had);
        }
        return -1;
    }

    private static void counts() {
        Bench.due("0 and 0", login(0, 0), 0);
        Bench.due("0 and 1", login(0, 1), 0);
        Bench.due("1 and 0", login(1, 0), 12);
        Bench.due("1 and 1", login(1, 1), 12);
        Bench.due("1 and 2", login(1, 2), 0);
        Bench.due("2 and 1", login(2, 1), 12);
        Bench.due("without sign, above", login(Integer.MAX_VALUE, Integer.MIN_VALUE), 0);
        Bench.due("without sign, below", login(-1, 1), 12);
        Bench.due("the greatest", login(-2, -1), 0);
        Bench.due("the greatest twice", login(-1, -1), 12);
        Bench.due("0 and the greatest", login(0, -1), 0);
        Bench.due("the greatest and 0", login(-1, 0), 12);
    }

    private static void pins() {
        PasskeyHouse x = house();
        create(x, 7, true, 0);
        Bench.due("the PIN is wanted", x.judge(0, -1), 7);
        Bench.setPin(x, 0, 0, "1234");
        Bench.due("unlock", Bench.unlock(x, 0, 0, "1234"), 0);
        create(x, 7, true, 2);
        Bench.due("by the PIN", x.judge(0, -1), 0);
        get(x, 7, true, 0);
        Bench.due("the PIN is wanted", x.judge(0, -1), 7);
        get(x, 7, true, 2);
        Bench.due("by the PIN", x.judge(0, -1), 0);
        get(x, 7, false, 2);
        Bench.due("it is not wanted", x.judge(0, -1), 0);
        get(x, 7, false, 0);
        Bench.due("nor told", x.judge(0, -1), 0);
        Bench.due("logins", x.account(0, 0, 3), 3);
    }

    /** What NEXT signs is the hash of the list: the challenge must be that of SIGN. */
    private static void next() {
        for (int other = 0; other <= 1; other++) {
            PasskeyHouse x = house();
            create(x, 7, false, 1);
            Bench.due("an account", x.judge(0, -1), 0);
            x.press(0);
            Bench.lay(x, "a.ex");
            Bench.due("another credential", x.create(0, 0, 5, -1, 8, 1, 4, 1), 0);
            int asked = x.offer(0, 7, 1, true, false);
            x.press(0);
            Bench.lay(x, "a.ex");
            Bench.due("get", x.get(0, 0, asked + other, 0, 7, 1, 4, 8), 0);
            Bench.lay(x, "a.ex");
            Bench.due("next", x.get(0, 0, asked, 0, 7, 1, 4, 4), 0);
            Bench.due("judge", x.judge(0, -1), other == 0 ? 0 : 8);
        }
    }

    /** A user is so many lowest bytes of w, and no more. */
    private static void users() {
        PasskeyHouse x = house();
        for (int m = 1; m <= 8; m++) {
            x.withdraw(0);
            int challenge = x.offer(0, 0xf2f3f4f5f6f7f8f9L, m, false, false);
            x.press(0);
            Bench.lay(x, "a.ex");
            Bench.due("create", x.create(0, 0, challenge, -1, 1, 1, 4, 0), 0);
            Bench.due("judge", x.judge(0, -1), 0);
            Bench.due("its bytes", x.account(0, m - 1, 4), m);
            for (int j = 0; j < m; j++) {
                Bench.due("byte", x.account(0, m - 1, 5 + j), 0xf9 - (m - 1 - j));
            }
            Bench.due("no more", x.account(0, m - 1, 5 + m), -1);
            int id = x.account(0, m - 1, 0);
            long other = m == 8 ? 0xf2f3f4f5f6f7f8f9L : 0xf2f3f4f5f6f7f8f9L ^ 1L << 8 * m;
            x.press(0);
            Bench.lay(x, "a.ex");
            int asked = x.offer(0, other, m, true, false);
            Bench.due("get", x.get(0, 0, asked, 0, other, m, 4, 0), 0);
            Bench.due("its id", x.at(AT_ID + 3), id & 255);
            Bench.due("judge", x.judge(0, -1), 0);
        }
    }

    /** Where no term is made of what is compared, nothing is equal to it, not the number 0 either. */
    private static void unmade() {
        for (int sort = 0; sort < 2; sort++) {
            PasskeyHouse x = house();
            int challenge = x.offer(0, 7, 1, false, false);
            Bench.lay(x, "a.ex");
            int name = x.seal(1, 0, -1);
            int own = x.own(1);
            byte[] data = Bench.bytes(Bench.four(name), 65, Bench.four(0), Bench.four(1), Bench.four(own));
            Bench.lay(x, data, Bench.four(0));
            int signature = sort == 0 ? x.seal(1, 4, -1) : 0;
            if (sort == 1) {
                Bench.lay(x, 1, Bench.four(challenge), "a.ex");
                Bench.due("HASH of the client data", x.sort(x.seal(1, 0, -1)), 7);
            }
            Bench.lay(x, 1, Bench.four(challenge), 4, "a.ex", Bench.four(1), 17, data, Bench.four(signature));
            Bench.due("judge", x.judge(0, -1), 8);
        }
    }

    private static void accounts() {
        PasskeyHouse x = house();
        int challenge = x.offer(0, 0x0102030405060708L, 8, false, false);
        x.press(0);
        Bench.lay(x, "a.ex");
        Bench.due("create for another user", x.create(0, 0, challenge, 0, 5, 1, 4, 1), 0);
        Bench.due("judge", x.judge(0, -1), 0);
        Bench.due("id", x.account(0, 0, 0), x.credential(0, 0, 0));
        Bench.due("PUBLIC", x.sort(x.account(0, 0, 1)), 2);
        Bench.due("count", x.account(0, 0, 2), 0);
        Bench.due("logins", x.account(0, 0, 3), 0);
        Bench.due("the offer's user", x.account(0, 0, 4), 8);
        for (int j = 0; j < 8; j++) {
            Bench.due("byte", x.account(0, 0, 5 + j), 1 + j);
        }
        Bench.due("byte 8", x.account(0, 0, 13), -1);
        Bench.due("what -1", x.account(0, 0, -1), -1);
        Bench.due("account 1", x.account(0, 1, 0), -1);
        Bench.due("account -2", x.account(0, -2, 0), -1);
        Bench.due("party 1", x.account(1, 0, 0), -1);
        Bench.due("party -1", x.account(-1, -1, 0), -1);
        int[] of = {1, 0, 1, 0};
        for (int what = 0; what < of.length; what++) {
            Bench.due("of the party, " + what, x.account(0, -1, what), of[what]);
        }
        Bench.due("of the party, 4", x.account(0, -1, 4), -1);
        Bench.due("of the party, -1", x.account(0, -1, -1), -1);
    }
}
