import java.util.function.Consumer;
import java.util.function.Supplier;

/** Promises 30 to 34, == PARTIES: the boundary cases of parties, offers, judging and accounts. */
public final class PartyLimitsTest {

    private static final int LEAST = Integer.MIN_VALUE;
    private static final int MOST = Integer.MAX_VALUE;
    /** Parties that are not there when there is one. */
    private static final int[] NO_PARTIES = {1, 2, 4, -1, -2, LEAST, MOST};
    private static final int SIGNER = 1;

    public static void main(String[] args) {
        Bench.run(PartyLimitsTest.class);
    }

    /** A party whose origin and name are "a.ex", and a hand with a secret, which signs what it will. */
    private static PasskeyHouse house() {
        PasskeyHouse x = new PasskeyHouse();
        Bench.lay(x, "a.exa.ex");
        Bench.due("party", x.party(4, 4), 0);
        return x;
    }

    private static int sealed(PasskeyHouse x, int what, Object... parts) {
        Bench.lay(x, parts);
        return x.seal(SIGNER, what, -1);
    }

    /** What of a response is to be another than it is due. */
    private static final class Forged {
        private int kind = 1;
        private int challenge;
        private String origin = "a.ex";
        private String name = "a.ex";
        private int id = 77;
        private int idInData = 77;
        private int flags = 65;
        private int count;
        private int publicTerm;
        private byte[] data;
        private int signature = -1;

        private byte[] data(PasskeyHouse x) {
            if (data != null) {
                return data;
            }
            byte[] head = Bench.bytes(Bench.four(sealed(x, 0, name)), flags, Bench.four(count));
            return kind == 1 ? Bench.bytes(head, Bench.four(idInData), Bench.four(publicTerm)) : head;
        }

        /** Lays the response onto the tape. */
        private void lay(PasskeyHouse x) {
            byte[] said = data(x);
            int hash = sealed(x, 0, kind, Bench.four(challenge), origin);
            int sign = sealed(x, 4, said, Bench.four(hash));
            Bench.lay(x, kind, Bench.four(challenge), origin.length(), origin, Bench.four(id), said.length, said,
                Bench.four(signature == -1 ? sign : signature));
        }

        private int judged(PasskeyHouse x) {
            lay(x);
            return x.judge(0, -1);
        }
    }

    /** A response for create by the hand's secret, to a new offer. */
    private static Forged forCreate(PasskeyHouse x, long user, boolean pin) {
        Forged f = new Forged();
        f.challenge = x.offer(0, user, 1, false, pin);
        f.publicTerm = x.own(SIGNER);
        return f;
    }

    private static Forged forGet(PasskeyHouse x, long user, boolean pin) {
        Forged f = new Forged();
        f.kind = 2;
        f.flags = 1;
        f.count = 1;
        f.challenge = x.offer(0, user, 1, true, pin);
        return f;
    }

    /** A party with an account of user 7 with the id 77. */
    private static PasskeyHouse withAccount(int count) {
        PasskeyHouse x = house();
        Forged f = forCreate(x, 7, false);
        f.count = count;
        Bench.due("an account", f.judged(x), 0);
        return x;
    }

    // ---- Promise 30: party

    @Sentence("Promise 30: the first n bytes of the tape are its origin, the m behind them its name: its number, 0 .. 3")
    static void parties() {
        PasskeyHouse x = new PasskeyHouse();
        for (int i = 0; i < 4; i++) {
            Bench.lay(x, "www.a.ex", "a.ex", "more");
            Bench.due("none yet", x.account(i, -1, 0), -1);
            Bench.due("party", x.party(8, 4), i);
            Bench.due("it is there", x.account(i, -1, 0), 0);
        }
        Bench.due("no terms", x.terms(), 0);
        Bench.holds("the tape stays", Bench.tapeIs(x, "www.a.exa.exmore"));
    }

    @Sentence("Promise 30: NONE: there are 4")
    static void fifthParty() {
        Twins.refused(() -> {
            PasskeyHouse x = Twins.furnished();
            Bench.lay(x, "aaa");
            x.party(1, 1);
            x.party(1, 1);
            Bench.due("the fourth", x.party(1, 1), 3);
            return x;
        }, "a fifth", x -> x.party(1, 1), x -> x.party(1, 1));
    }

    @Sentence("Promise 30: NONE: n is not 1 .. 40")
    static void otherN() {
        String origin = "x".repeat(16) + "." + Bench.text(24);
        Twins.refused(Twins.taped(origin, Bench.text(24)), "n 41", x -> x.party(41, 24), x -> x.party(0, 1), x -> x.party(-1, 1),
            x -> x.party(LEAST, 1), x -> x.party(MOST, 1));
        PasskeyHouse x = new PasskeyHouse();
        Bench.lay(x, origin.substring(1), Bench.text(24));
        Bench.due("n 40", x.party(40, 24), 0);
        Bench.lay(x, "aa");
        Bench.due("n 1", x.party(1, 1), 1);
    }

    @Sentence("Promise 30: NONE: m not 1 .. 24")
    static void otherM() {
        Twins.refused(Twins.taped(Bench.text(25), Bench.text(25)), "m 25", x -> x.party(25, 25), x -> x.party(1, 0), x -> x.party(1, -1),
            x -> x.party(1, LEAST), x -> x.party(1, MOST), x -> x.party(40, MOST));
        Twins.refused(Twins.taped("a.a."), "no name behind a point", x -> x.party(2, 0));
        PasskeyHouse x = new PasskeyHouse();
        Bench.lay(x, Bench.text(24), Bench.text(24));
        Bench.due("m 24", x.party(24, 24), 0);
        Bench.due("m 1", x.party(1, 1), 1);
    }

    @Sentence("Promise 30: NONE: there are not so many")
    static void notSoMany() {
        Twins.refused(Twins.taped("a.exa.e"), "seven bytes", x -> x.party(4, 4));
        Twins.refused(Twins.taped("a"), "one byte", x -> x.party(1, 1));
        Twins.refused(Twins.taped(), "no bytes", x -> x.party(1, 1));
        PasskeyHouse x = new PasskeyHouse();
        Bench.lay(x, "a.exa.ex");
        Bench.due("just so many", x.party(4, 4), 0);
    }

    @Sentence("Promise 30: NONE: or the name is not right")
    static void notRight() {
        String[][] wrong = {{"a.ex", "b.ex"}, {"a.ex", "x"}, {"a.ex", ".ex"}, {"ba.ex", "a.ex"}, {"a.ex", "b.a.ex"}, {"a.", "a"},
            {"a-ex", "ex"}};
        for (String[] w : wrong) {
            Twins.refused(Twins.taped(w[0], w[1]), w[1] + " for " + w[0], x -> x.party(w[0].length(), w[1].length()));
        }
        String[][] right = {{"a.ex", "a.ex"}, {"a.ex", "ex"}, {".ex", "ex"}, {"..", "."}, {".", "."}, {"a", "a"}};
        for (String[] r : right) {
            PasskeyHouse x = new PasskeyHouse();
            Bench.lay(x, r[0], r[1]);
            Bench.due(r[1] + " for " + r[0], x.party(r[0].length(), r[1].length()), 0);
        }
    }

    // ---- Promise 31: offer

    @Sentence("Promise 31: An OFFER of a party to a user: the challenge, a FRESH term each")
    static void offers() {
        PasskeyHouse x = house();
        for (int i = 0; i < 4; i++) {
            Bench.due("offers", x.account(0, -1, 1), i);
            Bench.due("offer", x.offer(0, -1L, 1 + 2 * i, i % 2 == 0, i > 1), 1 + i);
            Bench.due("FRESH", x.sort(1 + i), 1);
        }
        Bench.due("offers", x.account(0, -1, 1), 4);
    }

    @Sentence("Promise 31: NONE: there is no such party")
    static void offerOfNoParty() {
        for (int party : NO_PARTIES) {
            Twins.refused(Twins::furnished, "party " + party, x -> x.offer(party, 1, 1, false, false), x -> x.offer(party, 1, 8, true, true));
        }
    }

    @Sentence("Promise 31: NONE: m is not 1 .. 8")
    static void offerOfOtherM() {
        for (int m : new int[] {0, 9, -1, LEAST, MOST}) {
            Twins.refused(Twins::furnished, "m " + m, x -> x.offer(0, 1, m, false, false), x -> x.offer(0, 1, m, true, true));
        }
        Bench.due("m 1", Twins.furnished().offer(0, 1, 1, false, false) > 0, true);
        Bench.due("m 8", Twins.furnished().offer(0, 1, 8, false, false) > 0, true);
    }

    @Sentence("Promise 31: NONE: or there are 4 offers")
    static void fifthOffer() {
        Supplier<PasskeyHouse> full = () -> {
            PasskeyHouse x = Twins.furnished();
            x.offer(0, 1, 1, true, true);
            Bench.due("the fourth", x.offer(0, 1, 1, true, true) > 0, true);
            return x;
        };
        Twins.refused(full, "a fifth", x -> x.offer(0, 1, 1, false, false), x -> x.offer(0, 1, 8, true, true));
        PasskeyHouse x = full.get();
        Bench.lay(x, 2, Bench.four(x.terms()), 0, Bench.four(0), 0, Bench.four(0));
        Bench.due("one is judged", x.judge(0, -1), 3);
        Bench.due("a fourth again", x.offer(0, 1, 1, true, true) > 0, true);
        Bench.due("no fifth", x.offer(0, 1, 1, true, true), -1);
    }

    @Sentence("Promise 31: a party's offers are its own: four for each of four parties")
    static void offersOfAll() {
        PasskeyHouse x = new PasskeyHouse();
        Bench.lay(x, "aa");
        for (int p = 0; p < 4; p++) {
            Bench.due("party", x.party(1, 1), p);
        }
        for (int p = 0; p < 4; p++) {
            for (int i = 0; i < 4; i++) {
                Bench.due("offer", x.offer(p, 1, 1, false, false), 4 * p + i + 1);
            }
            Bench.due("no fifth", x.offer(p, 1, 1, false, false), -1);
        }
        Bench.due("withdraw", x.withdraw(2), 4);
        Bench.due("the others stay", x.account(1, -1, 1) + x.account(3, -1, 1), 8);
    }

    // ---- Promise 32: judge

    @Sentence("Promise 32: JUDGES the first n bytes of the tape (all, if n is NONE)")
    static void judgedBytes() {
        PasskeyHouse x = house();
        Forged f = forCreate(x, 7, false);
        f.lay(x);
        int size = 15 + 4 + 17;
        x.feed(0, 1);
        Bench.due("all: a byte behind", x.judge(0, -1), 1);
        Bench.due("that many, told", x.judge(0, size + 1), 1);
        Bench.due("one too few", x.judge(0, size - 1), 1);
        Bench.due("none", x.judge(0, 0), 1);
        Bench.due("the response", x.judge(0, size), 0);
        Bench.due("the tape stays", x.wipe(), size + 1);
        Bench.due("none of an empty tape", x.judge(0, -1), 1);
    }

    @Sentence("Promise 32: NONE: there is no such party")
    static void judgeOfNoParty() {
        for (int party : NO_PARTIES) {
            Twins.refused(Twins::furnished, "party " + party, x -> x.judge(party, -1), x -> x.judge(party, 0));
        }
    }

    @Sentence("Promise 32: NONE: or there are not so many bytes")
    static void judgeOfNoBytes() {
        Twins.refused(Twins::furnished, "judge", x -> x.judge(0, 17), x -> x.judge(0, -2), x -> x.judge(0, 401), x -> x.judge(0, LEAST),
            x -> x.judge(0, MOST));
        Bench.due("just so many", Twins.furnished().judge(0, 16), 1);
    }

    @Sentence("RESPONSE (promise 32): 1 it is none: another first byte than 1 or 2")
    static void otherKinds() {
        PasskeyHouse x = house();
        Forged f = forCreate(x, 7, false);
        f.lay(x);
        for (int kind : new int[] {0, 3, 4, 129, 255}) {
            x.poke(0, kind);
            Bench.due("kind " + kind, x.judge(0, -1), 1);
        }
        x.poke(0, 2);
        Bench.due("kind 2: the other sort", x.judge(0, -1), 2);
        x.poke(0, 1);
        Bench.due("kind 1", x.judge(0, -1), 0);
    }

    @Sentence("RESPONSE (promise 32): 1 it is none: bytes too few, or behind")
    static void otherSizes() {
        PasskeyHouse x = house();
        Forged f = forCreate(x, 7, false);
        f.lay(x);
        int size = 15 + 4 + 17;
        for (int n = 0; n < size; n++) {
            Bench.due("the first " + n, x.judge(0, n), 1);
        }
        for (int more = 1; more <= 5; more++) {
            x.feed(0, 1);
            Bench.due(more + " behind", x.judge(0, -1), 1);
        }
        Bench.due("the offer stays", x.account(0, -1, 1), 1);
        Bench.due("others", x.account(0, -1, 3), size + 5);
        Bench.due("the response", x.judge(0, size), 0);
    }

    @Sentence("RESPONSE (promise 32): n bytes of an origin and of DATA: n of 0, and n that leads behind the end")
    static void otherLengths() {
        PasskeyHouse x = house();
        Bench.lay(x, 1, Bench.four(1), 0, Bench.four(1), 0, Bench.four(1));
        Bench.due("no origin and no DATA is a response", x.judge(0, -1), 2);
        Bench.due("a byte less is none", x.judge(0, 14), 1);
        for (int at : new int[] {5, 10}) {
            for (int n : new int[] {1, 2, 127, 128, 255}) {
                x.poke(at, n);
                Bench.due("n " + n + " at " + at, x.judge(0, -1), 1);
            }
            x.poke(at, 0);
        }
        Bench.lay(x, 1, Bench.four(1), 255, new byte[255], Bench.four(1), 120, new byte[120], Bench.four(1));
        Bench.due("long ones", x.judge(0, -1), 2);
        Bench.lay(x, 2, Bench.four(1), 130, new byte[130], Bench.four(1), 255, new byte[255], Bench.four(1));
        Bench.due("400 bytes", x.judge(0, -1), 2);
        Bench.due("399 of them", x.judge(0, 399), 1);
    }

    @Sentence("JUDGES (promise 32): 2 its challenge is of no offer")
    static void noOffer() {
        PasskeyHouse x = house();
        Forged f = forCreate(x, 7, false);
        int challenge = f.challenge;
        for (int other : new int[] {0, challenge + 1, challenge - 1, challenge | LEAST, challenge + 256, challenge << 8, -1, LEAST, MOST}) {
            f.challenge = other;
            Bench.due("challenge " + other, f.judged(x), 2);
        }
        Bench.due("the offer stays", x.account(0, -1, 1), 1);
        f.challenge = challenge;
        Bench.due("it", f.judged(x), 0);
        Bench.due("a second time it is of none", x.judge(0, -1), 2);
        Bench.lay(x, "bb");
        x.party(1, 1);
        f.challenge = x.offer(1, 7, 1, false, false);
        Bench.due("of another party's offer", f.judged(x), 2);
        Bench.due("that one stays", x.account(1, -1, 1), 1);
    }

    @Sentence("JUDGES (promise 32): 2 or of one of the other sort (1 create, 2 get; that one stays)")
    static void otherSort() {
        PasskeyHouse x = house();
        Forged create = forCreate(x, 7, false);
        create.kind = 2;
        Bench.due("an offer to create", create.judged(x), 2);
        Bench.due("it stays", x.account(0, -1, 1), 1);
        Forged get = forGet(x, 7, false);
        get.kind = 1;
        Bench.due("an offer to get", get.judged(x), 2);
        Bench.due("they stay", x.account(0, -1, 1), 2);
        create.kind = 1;
        Bench.due("create", create.judged(x), 0);
        get.kind = 2;
        Bench.due("get", get.judged(x), 0);
        Bench.due("they are gone", x.account(0, -1, 1), 0);
    }

    @Sentence("JUDGES (promise 32): The offer is gone, whatever comes now; the others stay")
    static void offerIsGone() {
        for (int place = 0; place < 4; place++) {
            PasskeyHouse x = house();
            int[] all = new int[4];
            for (int i = 0; i < 4; i++) {
                all[i] = x.offer(0, 7, 1, false, false);
            }
            Forged f = new Forged();
            f.challenge = all[place];
            f.origin = "b.ex";
            x.own(SIGNER);
            Bench.due("another origin", f.judged(x), 3);
            Bench.due("three are left", x.account(0, -1, 1), 3);
            f.origin = "a.ex";
            Bench.due("it is gone", f.judged(x), 2);
            for (int i = 0; i < 4; i++) {
                f.challenge = all[i];
                f.origin = "b.ex";
                Bench.due("offer " + i, f.judged(x), i == place ? 2 : 3);
            }
            Bench.due("none is left", x.account(0, -1, 1), 0);
        }
    }

    @Sentence("JUDGES (promises 31, 32): a new offer stands beside those that stayed when one was gone")
    static void offerInPlaceOfOne() {
        for (int place = 0; place < 3; place++) {
            PasskeyHouse x = house();
            int[] all = new int[4];
            for (int i = 0; i < 3; i++) {
                all[i] = x.offer(0, 7, 1, false, false);
            }
            Forged f = new Forged();
            f.origin = "b.ex";
            x.own(SIGNER);
            f.challenge = all[place];
            Bench.due("one is gone", f.judged(x), 3);
            all[3] = x.offer(0, 7, 1, false, false);
            Bench.due("three", x.account(0, -1, 1), 3);
            for (int i = 3; i >= 0; i--) {
                f.challenge = all[i];
                Bench.due("offer " + i, f.judged(x), i == place ? 2 : 3);
            }
        }
    }

    @Sentence("JUDGES (promise 32): 3 the origin is not the party's")
    static void origins() {
        for (String origin : new String[] {"", "a.e", "a.exx", "b.ex", "a.ey", "A.ex", ".a.ex", "www.a.ex", "a.ex\0", Bench.text(255)}) {
            PasskeyHouse x = house();
            Forged f = forCreate(x, 7, false);
            f.origin = origin;
            Bench.due("origin " + origin, f.judged(x), 3);
            Bench.due("the offer is gone", x.account(0, -1, 1), 0);
            Bench.due("no account", x.account(0, -1, 0), 0);
        }
        String longest = "x".repeat(15) + "." + Bench.text(24);
        PasskeyHouse x = new PasskeyHouse();
        Bench.lay(x, longest, Bench.text(24));
        Bench.due("party", x.party(40, 24), 0);
        Forged f = forCreate(x, 7, false);
        f.origin = longest;
        f.name = Bench.text(24);
        Bench.due("an origin of 40 bytes", f.judged(x), 0);
    }

    @Sentence("JUDGES (promise 32): the origin is the page of the hand, of which the name is but the end")
    static void originIsNotTheName() {
        PasskeyHouse x = new PasskeyHouse();
        Bench.lay(x, "www.a.exa.ex");
        Bench.due("party", x.party(8, 4), 0);
        Forged f = forCreate(x, 7, false);
        Bench.due("the name as origin", f.judged(x), 3);
        f = forCreate(x, 7, false);
        f.origin = "www.a.ex";
        f.name = "www.a.ex";
        Bench.due("the origin as name", f.judged(x), 5);
        f = forCreate(x, 7, false);
        f.origin = "www.a.ex";
        Bench.due("each at its place", f.judged(x), 0);
    }

    // ---- create

    private static void created(String what, int want, Consumer<Forged> change) {
        created(what, false, want, change);
    }

    private static void created(String what, boolean pin, int want, Consumer<Forged> change) {
        PasskeyHouse x = house();
        Forged f = forCreate(x, 7, pin);
        change.accept(f);
        Bench.due(what, f.judged(x), want);
        Bench.due(what + ": the offer is gone", x.account(0, -1, 1), 0);
        Bench.due(what + ": accounts", x.account(0, -1, 0), want == 0 ? 1 : 0);
        Bench.due(what + ": took", x.account(0, -1, 2), want == 0 ? 1 : 0);
        Bench.due(what + ": others", x.account(0, -1, 3), want == 0 ? 0 : 1);
    }

    @Sentence("JUDGES create (promise 32): 4 DATA has not 17 bytes")
    static void createDataSize() {
        for (int size : new int[] {0, 1, 9, 16, 18, 255}) {
            created("DATA of " + size, 4, f -> f.data = new byte[size]);
        }
        created("DATA of 17", 5, f -> f.data = new byte[17]);
    }

    @Sentence("JUDGES create (promise 32): 5 its first four are not the HASH of the name")
    static void createName() {
        created("another name", 5, f -> f.name = "a.ey");
        created("no name", 5, f -> f.name = "");
        created("its end", 5, f -> f.name = "ex");
        created("no term", 5, f -> f.data = Bench.bytes(Bench.four(-1), 65, new byte[12]));
        created("it", 0, f -> f.name = "a.ex");
    }

    @Sentence("JUDGES create (promise 32): 6 bit 1 of the flags is not set, or bit 64")
    static void createFlags() {
        for (int flags = 0; flags < 256; flags += 1) {
            int said = flags;
            boolean good = (flags & 65) == 65;
            created("flags " + flags, good ? 0 : 6, f -> f.flags = said);
        }
    }

    @Sentence("JUDGES create (promise 32): 7 the PIN is wanted, and bit 4 is not set")
    static void createPin() {
        created("not wanted, 65", false, 0, f -> f.flags = 65);
        created("not wanted, 69", false, 0, f -> f.flags = 69);
        created("wanted, 65", true, 7, f -> f.flags = 65);
        created("wanted, all but 4", true, 7, f -> f.flags = 251);
        created("wanted, 69", true, 0, f -> f.flags = 69);
        created("6 before 7", true, 6, f -> f.flags = 64);
    }

    @Sentence("JUDGES create (promise 32): 8 its last four are no PUBLIC")
    static void createPublic() {
        created("a FRESH", 8, f -> f.publicTerm = 1);
        for (int term : new int[] {0, -1, LEAST, MOST, 1000}) {
            created("term " + term, 8, f -> f.publicTerm = term);
        }
        created("a HASH", 8, f -> f.publicTerm = 3);
    }

    @Sentence("JUDGES create (promise 32): 8 or its id is not that of the response")
    static void createId() {
        created("another id in DATA", 8, f -> f.idInData = 78);
        created("another id", 8, f -> f.id = 76);
        created("of the highest byte", 8, f -> f.id = 77 | LEAST);
        created("both the same, no term", 0, f -> {
            f.id = -5;
            f.idInData = -5;
        });
        created("both 0", 0, f -> {
            f.id = 0;
            f.idInData = 0;
        });
    }

    @Sentence("JUDGES create (promise 32): 8 or the signature is not SIGN by that secret of DATA and HASH of the client data")
    static void createSignature() {
        for (int term : new int[] {0, 1, 2, -2, LEAST, MOST}) {
            created("signature " + term, 8, f -> f.signature = term);
        }
        PasskeyHouse x = house();
        Forged f = forCreate(x, 7, false);
        x.own(SIGNER);
        Bench.due("by another secret", f.judged(x), 8);
        for (int sort = 0; sort < 3; sort++) {
            PasskeyHouse y = house();
            Forged g = forCreate(y, 7, false);
            byte[] said = g.data(y);
            int hash = sort == 0 ? sealed(y, 0, 2, Bench.four(g.challenge), "a.ex") : sort == 1
                ? sealed(y, 0, 1, Bench.four(g.challenge + 1), "a.ex") : sealed(y, 0, 1, Bench.four(g.challenge), "a.exx");
            g.signature = sealed(y, 4, said, Bench.four(hash));
            Bench.due("of other client data " + sort, g.judged(y), 8);
        }
        PasskeyHouse z = house();
        Forged h = forCreate(z, 7, false);
        byte[] said = h.data(z);
        int hash = sealed(z, 0, 1, Bench.four(h.challenge), "a.ex");
        Bench.due("agree", z.agree(SIGNER, h.publicTerm), true);
        h.signature = sealed(z, 2, said, Bench.four(hash));
        Bench.due("no MAC either", h.judged(z), 8);
    }

    @Sentence("JUDGES create (promise 32): 9 some account has the id, before 10")
    static void idTaken() {
        PasskeyHouse x = withAccount(0);
        Forged f = forCreate(x, 8, false);
        Bench.due("the id of another account", f.judged(x), 9);
        Bench.due("one account", x.account(0, -1, 0), 1);
        Bench.due("of the user of before", x.account(0, 0, 5), 7);
        f = forCreate(x, 7, false);
        f.id = 78;
        Bench.due("8 before 9", f.judged(x), 8);
        Bench.lay(x, "a.exa.ex");
        Bench.due("another party", x.party(4, 4), 1);
        f = new Forged();
        f.publicTerm = x.own(SIGNER);
        f.challenge = x.offer(1, 7, 1, false, false);
        f.lay(x);
        Bench.due("has accounts of its own", x.judge(1, -1), 0);
    }

    /** A party with 8 accounts, with the ids 1 .. 8. */
    private static PasskeyHouse full() {
        PasskeyHouse x = house();
        for (int id = 1; id <= 8; id++) {
            Forged f = forCreate(x, 7, false);
            f.id = id;
            f.idInData = id;
            Bench.due("account " + id, f.judged(x), 0);
        }
        return x;
    }

    @Sentence("JUDGES create (promise 32): 10 there are 8")
    static void ninth() {
        PasskeyHouse x = full();
        Bench.due("eight", x.account(0, -1, 0), 8);
        Bench.due("the last one", x.account(0, 7, 0), 8);
        Forged f = forCreate(x, 7, false);
        f.id = 9;
        f.idInData = 9;
        Bench.due("a ninth", f.judged(x), 10);
        Bench.due("eight still", x.account(0, -1, 0), 8);
        Bench.due("no ninth", x.account(0, 8, 0), -1);
        Bench.due("the offer is gone", x.account(0, -1, 1), 0);
        f = forCreate(x, 7, false);
        f.id = 8;
        f.idInData = 8;
        Bench.due("9 before 10", f.judged(x), 9);
    }

    @Sentence("JUDGES create (promise 32): Else 0: a new account: the offer's user, the id, the PUBLIC, the count of DATA, no login")
    static void newAccount() {
        for (int count : new int[] {0, 1, 256, MOST, LEAST, -1}) {
            PasskeyHouse x = house();
            Forged f = new Forged();
            f.challenge = x.offer(0, 0x8182838485868788L, 8, false, false);
            f.publicTerm = x.own(SIGNER);
            f.count = count;
            Bench.due("create", f.judged(x), 0);
            int[] want = {77, f.publicTerm, count, 0, 8};
            for (int what = 0; what < want.length; what++) {
                Bench.due("account " + what, x.account(0, 0, what), want[what]);
            }
            for (int j = 0; j < 8; j++) {
                Bench.due("byte " + j, x.account(0, 0, 5 + j), 0x81 + j);
            }
        }
    }

    // ---- get

    private static void got(String what, boolean pin, int want, Consumer<Forged> change) {
        PasskeyHouse x = withAccount(0);
        Forged f = forGet(x, 7, pin);
        change.accept(f);
        Bench.due(what, f.judged(x), want);
        Bench.due(what + ": the offer is gone", x.account(0, -1, 1), 0);
        Bench.due(what + ": logins", x.account(0, 0, 3), want == 0 ? 1 : 0);
        Bench.due(what + ": count", x.account(0, 0, 2), want == 0 ? f.count : 0);
        Bench.due(what + ": took", x.account(0, -1, 2), want == 0 ? 2 : 1);
        Bench.due(what + ": others", x.account(0, -1, 3), want == 0 ? 0 : 1);
    }

    @Sentence("JUDGES get (promise 32): 4 DATA has not 9 bytes")
    static void getDataSize() {
        for (int size : new int[] {0, 1, 8, 10, 17, 255}) {
            got("DATA of " + size, false, 4, f -> f.data = new byte[size]);
        }
        got("DATA of 9", false, 5, f -> f.data = new byte[9]);
    }

    @Sentence("JUDGES get (promise 32): 5 likewise")
    static void getName() {
        got("another name", false, 5, f -> f.name = "a.ey");
        got("its end", false, 5, f -> f.name = "ex");
        got("it", false, 0, f -> f.name = "a.ex");
    }

    @Sentence("JUDGES get (promise 32): 6 (without bit 64) likewise")
    static void getFlags() {
        for (int flags = 0; flags < 256; flags++) {
            int said = flags;
            got("flags " + flags, false, (flags & 1) == 1 ? 0 : 6, f -> f.flags = said);
        }
    }

    @Sentence("JUDGES get (promise 32): 7 likewise")
    static void getPin() {
        got("wanted, 1", true, 7, f -> f.flags = 1);
        got("wanted, all but 4", true, 7, f -> f.flags = 251);
        got("wanted, 5", true, 0, f -> f.flags = 5);
        got("not wanted, 5", false, 0, f -> f.flags = 5);
        got("6 before 7", true, 6, f -> f.flags = 0);
        got("7 before 11", true, 7, f -> f.id = 78);
    }

    @Sentence("JUDGES get (promise 32): 11 no account has the id, with the offer's user, before 8")
    static void noAccount() {
        got("another id", false, 11, f -> f.id = 78);
        got("an id of the highest bit", false, 11, f -> f.id = 77 | LEAST);
        got("another id and no signature", false, 11, f -> {
            f.id = 78;
            f.signature = 0;
        });
        long[][] users = {{8, 1}, {7, 2}, {7, 8}, {0x107, 2}, {0x700, 2}};
        for (long[] u : users) {
            PasskeyHouse x = withAccount(0);
            Forged f = forGet(x, 7, false);
            x.withdraw(0);
            f.challenge = x.offer(0, u[0], (int) u[1], true, false);
            Bench.due("an offer to user " + u[0] + " of " + u[1], f.judged(x), 11);
        }
        PasskeyHouse x = withAccount(0);
        Forged f = forGet(x, 7, false);
        x.withdraw(0);
        f.challenge = x.offer(0, 0x4207, 1, true, false);
        Bench.due("higher bytes of w do not count", f.judged(x), 0);
        for (int m = 1; m <= 7; m++) {
            for (long above : new long[] {1L << 8 * m, -1L << 8 * m, 1L << 63}) {
                userOf(m, 0x0102030405060708L & (1L << 8 * m) - 1, above);
            }
        }
        PasskeyHouse y = house();
        y.own(SIGNER);
        Bench.due("no account at all", forGet(y, 7, false).judged(y), 11);
    }

    /** An account of a user of m bytes; then an offer to the same bytes with others above them. */
    private static void userOf(int m, long user, long above) {
        PasskeyHouse x = house();
        Forged f = new Forged();
        f.publicTerm = x.own(SIGNER);
        f.challenge = x.offer(0, user, m, false, false);
        Bench.due("an account of " + m, f.judged(x), 0);
        Forged g = forGet(x, 7, false);
        x.withdraw(0);
        g.challenge = x.offer(0, user | above, m, true, false);
        Bench.due("bytes above " + m, g.judged(x), 0);
        g.challenge = x.offer(0, user ^ 1, m, true, false);
        g.count = 2;
        Bench.due("another byte of " + m, g.judged(x), 11);
    }

    @Sentence("JUDGES (promises 28, 29, 32): what a key signs by a WRAP and by a CREDENTIAL is taken, also when it woke and moved")
    static void signedByKeys() {
        for (int how = 0; how <= 1; how++) {
            PasskeyHouse x = house();
            x.key();
            Bench.lay(x, "a.ex");
            x.page(0, 4);
            x.offer(0, 7, 1, false, false);
            x.press(0);
            Bench.due("create", x.create(0, 0, 0, 0, 7, 1, 4, how), 0);
            Bench.due("judge", x.judge(0, -1), 0);
            for (int round = 0; round < 3; round++) {
                x.offer(0, 7, 1, true, false);
                x.press(0);
                Bench.lay(x, "a.ex");
                Bench.due("get", x.get(0, 0, 0, 0, 7, 1, 4, 0), 0);
                Bench.due("judge", x.judge(0, -1), 0);
                x.power(0, false);
                x.power(0, true);
                Bench.lay(x, "a.ex");
                x.cut(0, 1);
                Bench.due("power fails", x.get(0, 0, 5, 0, 7, 1, 4, 1), -3);
                Bench.due("it moves", x.power(0, true), true);
            }
            Bench.due("logins", x.account(0, 0, 3), 3);
        }
    }

    @Sentence("JUDGES (promises 29, 32): what NEXT signs is of the hash that SIGN had, and no other")
    static void signedByNext() {
        for (int other = 0; other <= 1; other++) {
            PasskeyHouse x = house();
            x.key();
            Bench.lay(x, "a.ex");
            x.page(0, 4);
            x.offer(0, 7, 1, false, false);
            x.press(0);
            Bench.due("create", x.create(0, 0, 0, 0, 7, 1, 4, 1), 0);
            Bench.due("judge", x.judge(0, -1), 0);
            Bench.store(x, 0, "a.ex", "other");
            int asked = x.offer(0, 7, 1, true, false);
            x.press(0);
            Bench.lay(x, "a.ex");
            Bench.due("get", x.get(0, 0, asked + other, -1, 7, 1, 4, 0), 0);
            Bench.lay(x, "a.ex");
            Bench.due("next", x.get(0, 0, asked, -1, 7, 1, 4, 4), 0);
            Bench.due("judge", x.judge(0, -1), other == 0 ? 0 : 8);
        }
    }

    @Sentence("JUDGES get (promise 32): 8 not SIGN by its secret of DATA and HASH of the client data")
    static void getSignature() {
        for (int term : new int[] {0, 1, 2, -2, MOST, LEAST}) {
            got("signature " + term, false, 8, f -> f.signature = term);
        }
        PasskeyHouse x = withAccount(0);
        Forged f = forGet(x, 7, false);
        x.own(SIGNER);
        Bench.due("by another secret", f.judged(x), 8);
        PasskeyHouse y = withAccount(5);
        Forged g = forGet(y, 7, false);
        g.signature = 0;
        g.count = 1;
        Bench.due("8 before 12", g.judged(y), 8);
        PasskeyHouse z = withAccount(0);
        Forged h = forGet(z, 7, false);
        Forged other = forGet(z, 7, false);
        byte[] said = h.data(z);
        int hash = sealed(z, 0, 2, Bench.four(other.challenge), "a.ex");
        h.signature = sealed(z, 4, said, Bench.four(hash));
        Bench.due("of another challenge", h.judged(z), 8);
    }

    @Sentence("JUDGES get (promise 32): 12 the count is not above the account's, both without sign (unless both are 0)")
    static void counts() {
        int[][] cases = {{0, 0, 0}, {0, 1, 0}, {0, MOST, 0}, {0, LEAST, 0}, {0, -1, 0}, {1, 0, 12}, {1, 1, 12}, {1, 2, 0}, {2, 1, 12},
            {255, 256, 0}, {256, 255, 12}, {MOST, MOST, 12}, {MOST, LEAST, 0}, {LEAST, MOST, 12}, {LEAST, LEAST, 12}, {LEAST, 0, 12},
            {LEAST, LEAST + 1, 0}, {-1, 0, 12}, {-1, 1, 12}, {-1, -1, 12}, {-1, -2, 12}, {-2, -1, 0}, {-1, MOST, 12}};
        for (int[] c : cases) {
            PasskeyHouse x = withAccount(c[0]);
            Forged f = forGet(x, 7, false);
            f.count = c[1];
            Bench.due("count " + c[1] + " above " + c[0], f.judged(x), c[2]);
            Bench.due("the account's count", x.account(0, 0, 2), c[2] == 0 ? c[1] : c[0]);
            Bench.due("logins", x.account(0, 0, 3), c[2] == 0 ? 1 : 0);
        }
    }

    @Sentence("JUDGES get (promise 32): Else 0: the account's count is that, one login more")
    static void logins() {
        PasskeyHouse x = withAccount(0);
        for (int i = 1; i <= 3; i++) {
            Forged f = forGet(x, 7, false);
            f.count = 3 * i;
            Bench.due("get", f.judged(x), 0);
            Bench.due("logins", x.account(0, 0, 3), i);
            Bench.due("count", x.account(0, 0, 2), 3 * i);
        }
    }

    // ---- Promise 33: withdraw

    @Sentence("Promise 33: All offers of a party are gone: how many, 0 .. 4")
    static void withdrawing() {
        for (int many = 0; many <= 4; many++) {
            PasskeyHouse x = house();
            int last = 0;
            for (int i = 0; i < many; i++) {
                last = x.offer(0, 7, 1, false, false);
            }
            Bench.due("withdraw", x.withdraw(0), many);
            Bench.due("none is left", x.account(0, -1, 1), 0);
            Bench.due("again", x.withdraw(0), 0);
            Bench.lay(x, 1, Bench.four(last), 4, "a.ex", Bench.four(0), 0, Bench.four(0));
            Bench.due("its challenge is of none", x.judge(0, -1), 2);
            for (int i = 0; i < 4; i++) {
                Bench.due("four new ones", x.offer(0, 7, 1, false, false) > last, true);
            }
            Bench.due("no fifth", x.offer(0, 7, 1, false, false), -1);
        }
    }

    @Sentence("Promise 33: NONE: there is no such party")
    static void withdrawOfNoParty() {
        for (int party : NO_PARTIES) {
            Twins.refused(Twins::furnished, "party " + party, x -> x.withdraw(party));
        }
    }

    @Sentence("Promise 33: accounts stay when offers are withdrawn")
    static void accountsStay() {
        PasskeyHouse x = withAccount(3);
        x.offer(0, 7, 1, true, false);
        Bench.due("withdraw", x.withdraw(0), 1);
        Bench.due("accounts", x.account(0, -1, 0), 1);
        Bench.due("its count", x.account(0, 0, 2), 3);
    }

    // ---- Promise 34: account

    @Sentence("Promise 34: what = 4 how many bytes its user has, 5 + j byte j of these. NONE when there is none such")
    static void accountUsers() {
        for (int m : new int[] {1, 8}) {
            PasskeyHouse x = house();
            Forged f = new Forged();
            f.challenge = x.offer(0, -1L, m, false, false);
            f.publicTerm = x.own(SIGNER);
            Bench.due("create", f.judged(x), 0);
            Bench.due("bytes", x.account(0, 0, 4), m);
            Bench.due("the first", x.account(0, 0, 5), 255);
            Bench.due("the last", x.account(0, 0, 4 + m), 255);
            for (int what : new int[] {5 + m, 6 + m, 13, 14, -1, -2, LEAST, MOST}) {
                Bench.due("what " + what, x.account(0, 0, what), -1);
            }
        }
    }

    @Sentence("Promise 34: Of account i of a party. NONE when there is none such")
    static void accountEnds() {
        PasskeyHouse x = house();
        Bench.due("none yet", x.account(0, 0, 0), -1);
        PasskeyHouse y = full();
        for (int i = 0; i < 8; i++) {
            Bench.due("account " + i, y.account(0, i, 0), 1 + i);
        }
        for (int i : new int[] {8, 9, -2, LEAST, MOST}) {
            Bench.due("account " + i, y.account(0, i, 0), -1);
        }
        for (int party : NO_PARTIES) {
            Bench.due("party " + party, y.account(party, 0, 0), -1);
            Bench.due("party " + party, y.account(party, -1, 0), -1);
        }
        Twins.refused(Twins::furnished, "account", z -> z.account(0, 1, 0), z -> z.account(0, 0, -1), z -> z.account(1, -1, 0),
            z -> z.account(0, -1, 4), z -> z.account(0, -2, 0));
    }

    @Sentence("Promise 34: With i = NONE: 0 how many accounts, 1 offers, 2 responses that it took (0), 3 others; NONE for another what")
    static void ofTheParty() {
        PasskeyHouse x = withAccount(0);
        Bench.due("get", forGet(x, 7, false).judged(x), 0);
        Bench.due("another origin", origin(x), 3);
        x.wipe();
        Bench.due("no response", x.judge(0, -1), 1);
        x.offer(0, 7, 1, true, false);
        int[] want = {1, 1, 2, 2};
        for (int what = 0; what < want.length; what++) {
            Bench.due("what " + what, x.account(0, -1, what), want[what]);
        }
        for (int what : new int[] {4, 5, 13, -1, LEAST, MOST}) {
            Bench.due("what " + what, x.account(0, -1, what), -1);
        }
        Bench.due("refused", x.judge(0, 1), -1);
        Bench.due("which is not counted", x.account(0, -1, 3), 2);
    }

    private static int origin(PasskeyHouse x) {
        Forged f = forGet(x, 7, false);
        f.origin = "b";
        return f.judged(x);
    }

    @Sentence("Promise 34: 2 its count (as an int)")
    static void countAsInt() {
        for (int count : new int[] {MOST, LEAST, -1}) {
            Bench.due("count", withAccount(count).account(0, 0, 2), count);
        }
    }
}
