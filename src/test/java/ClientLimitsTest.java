import java.util.function.Supplier;

/** Promises 25 to 29: the boundary cases of clients. */
public final class ClientLimitsTest {

    private static final int LEAST = Integer.MIN_VALUE;
    private static final int MOST = Integer.MAX_VALUE;
    private static final int[] NO_HANDS = {4, 5, -1, -2, LEAST, MOST};
    private static final int[] NO_KEYS = {3, 4, -1, -2, LEAST, MOST};
    private static final int NAME = 4;

    public static void main(String[] args) {
        Bench.run(ClientLimitsTest.class);
    }

    /** A key, and hand 0 on a page. */
    private static PasskeyHouse house(String page) {
        PasskeyHouse x = new PasskeyHouse();
        x.key();
        Bench.lay(x, page);
        Bench.due("page", x.page(0, page.length()), true);
        return x;
    }

    private static void sorts(PasskeyHouse x, String what, int from, int... want) {
        Bench.due(what + ": terms", x.terms(), from + want.length);
        for (int i = 0; i < want.length; i++) {
            Bench.due(what + ": term " + (from + 1 + i), x.sort(from + 1 + i), want[i]);
        }
    }

    private static void typed(PasskeyHouse x, String pin) {
        Bench.lay(x, pin);
        Bench.due("pin", x.pin(0, pin.length()), true);
    }

    // ---- Promise 25: setPin

    @Sentence("Promise 25: AGREEING: the hand has a new secret, so that nothing is AGREED and there is no token of before")
    static void agreeing() {
        PasskeyHouse x = house("a.ex");
        Bench.setPin(x, 0, 0, "1234");
        Bench.due("unlock", x.unlock(0, 0), 0);
        Bench.due("a token", x.seal(0, 3, 0) > 0, true);
        int sign = x.seal(0, 4, 0);
        int enc = x.seal(0, 1, 0);
        Bench.due("setPin", x.setPin(0, 0), 51);
        Bench.due("no token", x.seal(0, 3, 0), -1);
        Bench.holds("another secret", x.seal(0, 4, 0) > sign);
        Bench.holds("another key AGREED", x.seal(0, 1, 0) > enc);
    }

    @Sentence("Promise 25: the PIN that is typed: 0 .. 3 bytes are answered by 55, 4 .. 12 by 0")
    static void settingLengths() {
        for (int n = 0; n <= 12; n++) {
            PasskeyHouse x = house("a.ex");
            typed(x, "123456789012".substring(0, n));
            Bench.due("setPin of " + n, x.setPin(0, 0), n < 4 ? 55 : 0);
            Bench.due("a PIN", x.told(0, 10), n < 4 ? 0 : 1);
            Bench.due("two messages", x.told(0, 4), 2);
        }
    }

    @Sentence("Promise 25: there is a PIN: the second message is answered by 51")
    static void settingTwice() {
        PasskeyHouse x = house("a.ex");
        Bench.setPin(x, 0, 0, "1234");
        typed(x, "5678");
        int end = x.told(0, 7);
        Bench.due("setPin", x.setPin(0, 0), 51);
        Bench.due("nothing is written", x.told(0, 7), end);
        Bench.due("the PIN stays", Bench.unlock(x, 1, 0, "1234"), 0);
    }

    @Sentence("Promise 25: the first status that is not 0 (or SILENT) is the answer, and nothing more is sent")
    static void silentAtOnce() {
        PasskeyHouse x = house("a.ex");
        typed(x, "1234");
        x.power(0, false);
        int terms = x.terms();
        Bench.due("setPin", x.setPin(0, 0), -3);
        sorts(x, "PUBLIC alone", terms, 2);
        Bench.due("nothing AGREED", x.seal(0, 1, 0), -1);
        Bench.due("a secret", x.seal(0, 4, 0) > 0, true);
        x.power(0, true);
        Bench.due("no message came", x.told(0, 4), 0);
    }

    @Sentence("Promise 25: power that fails by the second message: SILENT")
    static void silentThen() {
        for (int acts = 0; acts <= 8; acts++) {
            PasskeyHouse x = house("a.ex");
            typed(x, "1234");
            x.cut(0, acts);
            Bench.due("setPin with " + acts, x.setPin(0, 0), acts < 8 ? -3 : 0);
            Bench.due("it AGREED", x.seal(0, 1, 0) > 0, true);
            Bench.due("answered", x.told(0, 4), acts < 8 ? 1 : 2);
            Bench.due("no answer", x.answer(0, 0), acts < 8 ? -1 : 0);
        }
    }

    @Sentence("Promise 25: NONE: there is no such hand, or key")
    static void setPinOfNone() {
        for (int hand : NO_HANDS) {
            Twins.refused(Twins::furnished, "setPin of hand " + hand, x -> x.setPin(hand, 0));
        }
        for (int key : NO_KEYS) {
            Twins.refused(Twins::furnished, "setPin of key " + key, x -> x.setPin(0, key));
        }
        Bench.due("the last hand and key", Twins.furnished().setPin(3, 2), 55);
    }

    // ---- Promise 26: changePin

    @Sentence("Promise 26: 5 ENC of the first n bytes of the tape: 0 .. 3 are answered by 55, 4 .. 12 by 0")
    static void changingLengths() {
        for (int n = 0; n <= 12; n++) {
            PasskeyHouse x = house("a.ex");
            Bench.setPin(x, 0, 0, "1234");
            Bench.lay(x, "abcdefghijklmno");
            Bench.due("changePin to " + n, x.changePin(0, 0, n), n < 4 ? 55 : 0);
            Bench.holds("the tape stays", Bench.tapeIs(x, "abcdefghijklmno"));
            Bench.due("the PIN", Bench.unlock(x, 1, 0, n < 4 ? "1234" : "abcdefghijkl".substring(0, n)), 0);
        }
    }

    @Sentence("Promise 26: the first status that is not 0 is the answer: 53, 49, 52, 50 as of the key")
    static void changingFaults() {
        PasskeyHouse x = house("a.ex");
        Bench.lay(x, "5678");
        Bench.due("no PIN", x.changePin(0, 0, 4), 53);
        Bench.setPin(x, 0, 0, "1234");
        typed(x, "4321");
        int[] due = {49, 49, 52, 49, 49, 52, 49, 50, 50};
        for (int want : due) {
            Bench.due("a wrong one", x.changePin(0, 0, 4), want);
            if (want == 52) {
                Bench.due("blocked", x.changePin(0, 0, 4), 52);
                x.power(0, false);
                x.power(0, true);
            }
        }
        x.power(0, false);
        int terms = x.terms();
        Bench.due("SILENT", x.changePin(0, 0, 4), -3);
        sorts(x, "PUBLIC alone", terms, 2);
    }

    @Sentence("Promise 26: NONE: there is no such hand, or key")
    static void changePinOfNone() {
        for (int hand : NO_HANDS) {
            Twins.refused(Twins::furnished, "changePin of hand " + hand, x -> x.changePin(hand, 0, 4));
        }
        for (int key : NO_KEYS) {
            Twins.refused(Twins::furnished, "changePin of key " + key, x -> x.changePin(0, key, 4));
        }
    }

    @Sentence("Promise 26: NONE also when n is not 0 .. 12")
    static void changePinOfOtherN() {
        Twins.refused(Twins.taped(Bench.text(40)), "changePin", x -> x.changePin(0, 0, 13), x -> x.changePin(0, 0, -1),
            x -> x.changePin(0, 0, 14), x -> x.changePin(0, 0, LEAST), x -> x.changePin(0, 0, MOST));
    }

    @Sentence("Promise 26: NONE also when there are not so many")
    static void changePinOfNoBytes() {
        Twins.refused(Twins.taped("567"), "changePin", x -> x.changePin(0, 0, 4), x -> x.changePin(0, 0, 12));
        Twins.refused(Twins.taped(), "changePin of an empty tape", x -> x.changePin(0, 0, 1));
        Bench.due("just so many", Twins.taped("567").get().changePin(0, 0, 3), 55);
        Bench.due("none of an empty tape", Twins.taped().get().changePin(0, 0, 0), 55);
    }

    // ---- Promise 27: unlock

    @Sentence("Promise 27: the hand's token is that of what is answered; none when the status is not 0")
    static void unlocking() {
        PasskeyHouse x = house("a.ex");
        typed(x, "1234");
        Bench.due("no PIN", x.unlock(0, 0), 53);
        Bench.due("no token", x.seal(0, 3, 0), -1);
        Bench.setPin(x, 0, 0, "1234");
        Bench.due("unlock", x.unlock(0, 0), 0);
        int mark = x.seal(0, 3, 0);
        Bench.due("a token", x.sort(mark), 10);
        typed(x, "123");
        Bench.due("a wrong one", x.unlock(0, 0), 49);
        Bench.due("no token", x.seal(0, 3, 0), -1);
        Bench.lay(x, "1234");
        x.pin(0, 0);
        Bench.due("none typed", x.unlock(0, 0), 49);
        typed(x, "1234");
        Bench.due("unlock", x.unlock(0, 0), 0);
        Bench.due("the same token", x.seal(0, 3, 0), mark);
    }

    @Sentence("Promise 27: SILENT, by the first message or the second: no token")
    static void unlockingSilently() {
        PasskeyHouse x = house("a.ex");
        Bench.setPin(x, 0, 0, "1234");
        x.power(0, false);
        int terms = x.terms();
        Bench.due("off", x.unlock(0, 0), -3);
        sorts(x, "PUBLIC alone", terms, 2);
        for (int acts = 0; acts < 10; acts++) {
            x.power(0, true);
            x.cut(0, acts);
            Bench.due("with " + acts, x.unlock(0, 0), -3);
            Bench.due("no token", x.seal(0, 3, 0), -1);
            x.cut(0, -1);
        }
        x.power(0, true);
        x.cut(0, 10);
        Bench.due("with 10", x.unlock(0, 0), 0);
    }

    @Sentence("Promise 27: NONE: there is no such hand, or key")
    static void unlockOfNone() {
        for (int hand : NO_HANDS) {
            Twins.refused(Twins::furnished, "unlock of hand " + hand, x -> x.unlock(hand, 0));
        }
        for (int key : NO_KEYS) {
            Twins.refused(Twins::furnished, "unlock of key " + key, x -> x.unlock(0, key));
        }
    }

    // ---- a name that is right

    @Sentence("HANDS (promises 28, 29): A name is RIGHT for a page when they are the same, or the page ends with a point and the name")
    static void rightNames() {
        String[][] cases = {{"a.ex", "a.ex", "1"}, {"a.ex", "ex", "1"}, {"a.ex", ".ex", "0"}, {"a.ex", "x", "0"}, {"a.ex", "a", "0"},
            {"a.ex", "a.e", "0"}, {"a.ex", "A.ex", "0"}, {"a.ex", "b.a.ex", "0"}, {"ba.ex", "a.ex", "0"}, {"b.a.ex", "a.ex", "1"},
            {".a.ex", "a.ex", "1"}, {"..ex", ".ex", "1"}, {"..ex", "ex", "1"}, {"a/ex", "ex", "0"}, {"a-ex", "ex", "0"},
            {"a", "a", "1"}, {"b", "a", "0"}, {".", ".", "1"}, {"..", ".", "1"}, {"a.", "a", "0"}, {"x.a.b", "a", "0"},
            {"a.a", "a", "1"}, {"aa", "a", "0"}, {"\u00ff.\u0000", "\u0000", "1"}};
        for (String[] c : cases) {
            PasskeyHouse x = house(c[0]);
            int n = Bench.lay(x, c[1]);
            boolean right = c[2].equals("1");
            Bench.due(c[1] + " for " + c[0] + ", get", x.get(0, 0, 1, -1, 1, 1, n, 0), right ? 46 : -2);
            Bench.due(c[1] + " for " + c[0] + ", create", x.create(0, 0, 1, -1, 1, 1, n, 0), right ? 39 : -2);
        }
    }

    @Sentence("HANDS (promises 28, 29): a name of 24 bytes and a page of 40")
    static void longestNames() {
        for (int n : new int[] {1, 23, 24}) {
            for (int page : new int[] {n, n + 1, 39, 40}) {
                String before = page == n ? "" : "x".repeat(page - n - 1) + ".";
                PasskeyHouse x = house(before + Bench.text(n));
                Bench.lay(x, Bench.text(n));
                x.press(0);
                Bench.due("create", x.create(0, 0, 1, -1, 1, 1, n, 0), 0);
                Bench.due("the response", x.wipe(), 1 + 4 + 1 + page + 4 + 1 + 17 + 4);
                PasskeyHouse y = house(page == n ? "y" + Bench.text(n - 1) : before.replace('.', 'x') + Bench.text(n));
                Bench.lay(y, Bench.text(n));
                Bench.due("not right", y.create(0, 0, 1, -1, 1, 1, n, 0), -2);
            }
        }
    }

    @Sentence("Promises 28, 29: FOREIGN: the client does not send it: nothing has changed")
    static void foreign() {
        Twins.answered(Twins.taped("b.ex"), "FOREIGN", -2, x -> x.create(0, 0, 0, 0, 1, 1, NAME, 0), x -> x.create(0, 0, 5, -1, 1, 8, NAME, 7),
            x -> x.get(0, 0, 0, 0, 1, 1, NAME, 0), x -> x.get(0, 0, 5, -1, 1, 8, NAME, 15), x -> x.get(0, 0, 5, -1, 1, 8, NAME, 4),
            x -> x.create(3, 0, 5, -1, 1, 1, NAME, 0), x -> x.get(3, 0, 5, -1, 1, 1, NAME, 0));
    }

    @Sentence("Promises 28, 29: FOREIGN of a key that is off, too")
    static void foreignWhenOff() {
        PasskeyHouse x = house("a.ex");
        x.power(0, false);
        Bench.lay(x, "b.ex");
        Bench.due("create", x.create(0, 0, 1, -1, 1, 1, NAME, 0), -2);
        Bench.due("get", x.get(0, 0, 1, -1, 1, 1, NAME, 4), -2);
        Bench.lay(x, "a.ex");
        Bench.due("create", x.create(0, 0, 1, -1, 1, 1, NAME, 0), -3);
        Bench.due("get", x.get(0, 0, 1, -1, 1, 1, NAME, 0), -3);
        Bench.due("NEXT", x.get(0, 0, 1, -1, 1, 1, NAME, 4), -3);
    }

    @Sentence("Promises 28, 29: NONE goes before FOREIGN")
    static void noneBeforeForeign() {
        Twins.refused(Twins.taped("b.ex"), "NONE", x -> x.create(4, 0, 1, -1, 1, 1, NAME, 0), x -> x.create(0, 3, 1, -1, 1, 1, NAME, 0),
            x -> x.create(0, 0, 1, 1, 1, 1, NAME, 0), x -> x.create(0, 0, 1, -1, 1, 9, NAME, 0), x -> x.create(0, 0, 1, -1, 1, 1, NAME, 8),
            x -> x.get(4, 0, 1, -1, 1, 1, NAME, 0), x -> x.get(0, 3, 1, -1, 1, 1, NAME, 0), x -> x.get(0, 0, 1, 1, 1, 1, NAME, 0),
            x -> x.get(0, 0, 1, -1, 1, 9, NAME, 0), x -> x.get(0, 0, 1, -1, 1, 1, NAME, 16));
    }

    // ---- Promises 28 and 29: what is refused

    @Sentence("Promises 28, 29: NONE: there is no such hand")
    static void noHand() {
        for (int hand : NO_HANDS) {
            Twins.refused(Twins::furnished, "hand " + hand, x -> x.create(hand, 0, 1, -1, 1, 1, NAME, 0),
                x -> x.get(hand, 0, 1, -1, 1, 1, NAME, 0), x -> x.get(hand, 0, 1, -1, 1, 1, NAME, 4));
        }
    }

    @Sentence("Promises 28, 29: NONE: there is no such key")
    static void noKey() {
        for (int key : NO_KEYS) {
            Twins.refused(Twins::furnished, "key " + key, x -> x.create(0, key, 1, -1, 1, 1, NAME, 0),
                x -> x.get(0, key, 1, -1, 1, 1, NAME, 0), x -> x.get(0, key, 1, -1, 1, 1, NAME, 4));
        }
    }

    @Sentence("Promises 28, 29: NONE: there is no such party (and not NONE)")
    static void noParty() {
        for (int party : new int[] {1, 2, 4, -2, -3, LEAST, MOST}) {
            Twins.refused(Twins::furnished, "party " + party, x -> x.create(0, 0, 1, party, 1, 1, NAME, 2),
                x -> x.get(0, 0, 1, party, 1, 1, NAME, 0), x -> x.get(0, 0, 1, party, 1, 1, NAME, 12));
        }
        Bench.due("NONE is no party, and taken", Twins.furnished().get(0, 0, 1, -1, 1, 1, NAME, 1), 0);
        Bench.due("the party that there is", Twins.furnished().get(0, 0, 1, 0, 1, 1, NAME, 1), 0);
    }

    @Sentence("Promises 28, 29: NONE: n is not 1 .. 24")
    static void otherN() {
        Supplier<PasskeyHouse> scene = () -> {
            PasskeyHouse x = Twins.furnished();
            Bench.lay(x, Bench.text(30));
            x.page(3, 25);
            return x;
        };
        Twins.refused(scene, "n", x -> x.create(3, 2, 1, -1, 1, 1, 25, 0), x -> x.create(3, 2, 1, -1, 1, 1, 0, 0),
            x -> x.create(3, 2, 1, -1, 1, 1, -1, 0), x -> x.create(3, 2, 1, -1, 1, 1, LEAST, 0), x -> x.create(3, 2, 1, -1, 1, 1, MOST, 0),
            x -> x.get(3, 2, 1, -1, 1, 1, 25, 0), x -> x.get(3, 2, 1, -1, 1, 1, 0, 0), x -> x.get(3, 2, 1, -1, 1, 1, -1, 4),
            x -> x.get(3, 2, 1, -1, 1, 1, LEAST, 0), x -> x.get(3, 2, 1, -1, 1, 1, MOST, 0));
        Supplier<PasskeyHouse> point = () -> {
            PasskeyHouse x = Twins.furnished();
            Bench.lay(x, "a.");
            x.page(3, 2);
            return x;
        };
        Twins.refused(point, "no name behind a point", x -> x.create(3, 2, 1, -1, 1, 1, 0, 0), x -> x.get(3, 2, 1, -1, 1, 1, 0, 0));
        PasskeyHouse y = scene.get();
        y.page(3, 24);
        Bench.due("24", y.create(3, 2, 1, -1, 1, 1, 24, 0), 39);
        y.page(3, 1);
        Bench.due("1", y.create(3, 2, 1, -1, 1, 1, 1, 0), 39);
    }

    @Sentence("Promises 28, 29: NONE: or there are not so many")
    static void notSoMany() {
        Twins.refused(Twins.taped("a.e"), "n", x -> x.create(0, 0, 1, -1, 1, 1, 4, 0), x -> x.create(0, 0, 1, -1, 1, 1, 24, 0),
            x -> x.get(0, 0, 1, -1, 1, 1, 4, 0), x -> x.get(0, 0, 1, -1, 1, 1, 4, 4));
        Twins.refused(Twins.taped(), "n of an empty tape", x -> x.create(0, 0, 1, -1, 1, 1, 1, 0), x -> x.get(0, 0, 1, -1, 1, 1, 1, 0));
        Bench.due("just so many", Twins.taped("a.ex").get().get(0, 0, 1, -1, 1, 1, 4, 1), 0);
    }

    @Sentence("Promises 28, 29: NONE: m is not 1 .. 8")
    static void otherM() {
        for (int m : new int[] {0, 9, -1, LEAST, MOST}) {
            Twins.refused(Twins::furnished, "m " + m, x -> x.create(0, 0, 1, -1, 1, m, NAME, 2), x -> x.get(0, 0, 1, -1, 1, m, NAME, 1),
                x -> x.get(0, 0, 1, -1, 1, m, NAME, 4));
        }
        for (int m = 1; m <= 8; m++) {
            Bench.due("m " + m, Twins.furnished().get(0, 0, 1, -1, 1, m, NAME, 1), 0);
        }
    }

    @Sentence("Promise 28: NONE: or how not 0 .. 7")
    static void otherHowOfCreate() {
        Twins.refused(Twins::furnished, "how", x -> x.create(0, 0, 1, -1, 1, 1, NAME, 8), x -> x.create(0, 0, 1, -1, 1, 1, NAME, -1),
            x -> x.create(0, 0, 1, -1, 1, 1, NAME, 15), x -> x.create(0, 0, 1, -1, 1, 1, NAME, LEAST),
            x -> x.create(0, 0, 1, -1, 1, 1, NAME, MOST));
        int[] due = {54, 54, 0, 0, 54, 54, 0, 0};
        for (int how = 0; how <= 7; how++) {
            Bench.due("how " + how, Twins.furnished().create(0, 0, 1, -1, 1, 1, NAME, how), due[how]);
        }
    }

    @Sentence("Promise 29: NONE as for create(), but how is not 0 .. 15")
    static void otherHowOfGet() {
        Twins.refused(Twins::furnished, "how", x -> x.get(0, 0, 1, -1, 1, 1, NAME, 16), x -> x.get(0, 0, 1, -1, 1, 1, NAME, -1),
            x -> x.get(0, 0, 1, -1, 1, 1, NAME, 31), x -> x.get(0, 0, 1, -1, 1, 1, NAME, LEAST),
            x -> x.get(0, 0, 1, -1, 1, 1, NAME, MOST));
        for (int how = 0; how <= 15; how++) {
            Bench.due("how " + how, Twins.furnished().get(0, 0, 1, -1, 1, 1, NAME, how), 0);
        }
    }

    // ---- Promise 28: create

    @Sentence("Promise 28: a challenge (0: that of the latest offer of the party, if it has one)")
    static void challenges() {
        PasskeyHouse x = house("a.ex");
        Bench.lay(x, "a.exa.ex");
        x.party(4, 4);
        asked(x, 0, 0, 0);
        asked(x, 0, -1, 0);
        int first = x.offer(0, 1, 1, false, false);
        asked(x, 0, 0, first);
        int second = x.offer(0, 1, 1, true, false);
        asked(x, 0, 0, second);
        asked(x, 0, -1, 0);
        asked(x, 7, 0, 7);
        asked(x, -1, 0, -1);
        asked(x, LEAST, -1, LEAST);
        asked(x, MOST, 0, MOST);
        Bench.lay(x, 2, Bench.four(second), 0, Bench.four(0), 0, Bench.four(0));
        Bench.due("the latest is judged", x.judge(0, -1), 3);
        asked(x, 0, 0, first);
        x.withdraw(0);
        asked(x, 0, 0, 0);
    }

    /** Both clients, with a challenge and a party, bring a response with this challenge. */
    private static void asked(PasskeyHouse x, int challenge, int party, int want) {
        x.press(0);
        Bench.lay(x, "a.ex");
        Bench.due("create", x.create(0, 0, challenge, party, 1, 1, 4, 1), 0);
        Bench.holds("create: the challenge is " + want, four(x, 1) == want);
        Bench.lay(x, "a.ex");
        Bench.due("get", x.get(0, 0, challenge, party, 1, 1, 4, 1), 0);
        Bench.holds("get: the challenge is " + want, four(x, 1) == want);
    }

    private static int four(PasskeyHouse x, int at) {
        return x.at(at) << 24 | x.at(at + 1) << 16 | x.at(at + 2) << 8 | x.at(at + 3);
    }

    @Sentence("Promise 28: a user (the m lowest bytes of w, the highest of them first)")
    static void users() {
        for (int m = 1; m <= 8; m++) {
            PasskeyHouse x = house("a.ex");
            x.press(0);
            Bench.lay(x, "a.ex");
            Bench.due("create", x.create(0, 0, 1, -1, 0x8182838485868788L, m, 4, 1), 0);
            Bench.due("bytes", x.credential(0, 0, 3), m);
            for (int j = 0; j < m; j++) {
                Bench.due("byte " + j, x.credential(0, 0, 4 + j), 0x88 - (m - 1 - j));
            }
        }
    }

    /** A party with the origin and name "a.ex" and accounts of the users 7, 8, 7 at key 0, and 7 at key 1. */
    private static PasskeyHouse withAccounts() {
        PasskeyHouse x = house("a.ex");
        x.key();
        Bench.lay(x, "a.exa.ex");
        Bench.due("party", x.party(4, 4), 0);
        int[][] accounts = {{7, 1}, {7, 0}, {8, 0}, {7, 0}};
        for (int[] a : accounts) {
            x.offer(0, a[0], 1, false, false);
            x.press(a[1]);
            Bench.lay(x, "a.ex");
            Bench.due("create", x.create(0, a[1], 0, 0, a[0], 1, 4, 4), 0);
            Bench.due("judge", x.judge(0, -1), 0);
        }
        return x;
    }

    @Sentence("Promise 28: 5 an entry for each account of that user at the party (none of them, party NONE, or how & 4: no 5)")
    static void exclusion() {
        PasskeyHouse x = withAccounts();
        for (int key = 0; key < 2; key++) {
            x.press(key);
            Bench.lay(x, "a.ex");
            Bench.due("an account of it", x.create(0, key, 5, 0, 7, 1, 4, 0), 25);
            Bench.holds("the tape stays", Bench.tapeIs(x, "a.ex"));
        }
        int[][] free = {{0, 0, 9, 1, 0}, {0, 0, 7, 2, 0}, {1, 0, 8, 1, 0}, {0, -1, 7, 1, 0}, {0, 0, 7, 1, 4}};
        for (int[] f : free) {
            x.press(f[0]);
            Bench.lay(x, "a.ex");
            Bench.due("none of it", x.create(0, f[0], 5, f[1], f[2], f[3], 4, f[4]), 0);
        }
    }

    @Sentence("Promise 28: 5 an entry for each of 8 accounts, which are as many as there may be")
    static void eightAccounts() {
        PasskeyHouse x = house("a.ex");
        x.key();
        Bench.lay(x, "a.exa.ex");
        x.party(4, 4);
        for (int i = 0; i < 8; i++) {
            int key = i == 7 ? 1 : 0;
            x.offer(0, 7, 1, false, false);
            x.press(key);
            Bench.lay(x, "a.ex");
            Bench.due("create", x.create(0, key, 0, 0, 7, 1, 4, 4), 0);
            Bench.due("judge", x.judge(0, -1), 0);
        }
        x.press(1);
        Bench.lay(x, "a.ex");
        Bench.due("the eighth is told too", x.create(0, 1, 5, 0, 7, 1, 4, 1), 25);
        Bench.due("for get too", x.get(0, 1, 5, 0, 7, 1, 4, 1), 0);
        Bench.due("its id", four(x, 10), x.account(0, 7, 0));
    }

    @Sentence("Promise 28: 7 \"rk\" true, if how & 1 (else no 7)")
    static void options() {
        for (int how = 0; how <= 7; how++) {
            PasskeyHouse x = house("a.ex");
            x.press(0);
            Bench.lay(x, "a.ex");
            Bench.due("create", x.create(0, 0, 1, -1, 1, 1, 4, how), 0);
            Bench.due("stored with " + how, x.told(0, 8), how & 1);
        }
    }

    @Sentence("Promise 28: 8 MARK by the token of hash, and 9 = 1, if the hand has a token and how & 2")
    static void marks() {
        for (int how = 0; how <= 7; how++) {
            for (int token = 0; token <= 1; token++) {
                PasskeyHouse x = house("a.ex");
                Bench.setPin(x, 0, 0, "1234");
                if (token == 1) {
                    Bench.due("unlock", x.unlock(0, 0), 0);
                }
                x.press(0);
                Bench.lay(x, "a.ex");
                int terms = x.terms();
                boolean passes = token == 1 && (how & 2) != 0;
                Bench.due("create with " + how, x.create(0, 0, 1, -1, 1, 1, 4, how), passes ? 0 : 54);
                if (passes) {
                    sorts(x, "HASH, MARK, HASH, the id, PUBLIC, SIGN", terms, 7, 10, 7, (how & 1) != 0 ? 1 : 8, 2, 6);
                    Bench.due("flags", x.at(19), 69);
                } else {
                    sorts(x, "HASH", terms, 7);
                }
            }
        }
    }

    @Sentence("Promise 28: Behind 0 the RESPONSE is on the tape, in place of what was there; else the tape stays")
    static void responses() {
        PasskeyHouse x = house("a.ex");
        Bench.lay(x, "a.ex", Bench.text(396));
        Bench.due("no press", x.create(0, 0, 5, -1, 1, 1, 4, 0), 39);
        Bench.due("400 bytes", x.at(399), 'n');
        x.press(0);
        Bench.due("create", x.create(0, 0, 5, -1, 1, 1, 4, 0), 0);
        byte[] data = Bench.bytes(Bench.four(3), 65, Bench.four(0), Bench.four(4), Bench.four(5));
        Bench.holds("the response alone", Bench.tapeIs(x, 1, Bench.four(5), 4, "a.ex", Bench.four(4), 17, data, Bench.four(6)));
        x.power(0, false);
        Bench.lay(x, "a.ex", 1);
        Bench.due("SILENT", x.create(0, 0, 5, -1, 1, 1, 4, 0), -3);
        Bench.holds("the tape", Bench.tapeIs(x, "a.ex", 1));
    }

    @Sentence("Promise 28: the statuses of MAKE are the answer: 40 when there is no room, SILENT when power fails")
    static void createFaults() {
        PasskeyHouse x = house("a.ex");
        for (int i = 0; i < 6; i++) {
            x.press(0);
            Bench.lay(x, "a.ex");
            Bench.due("create", x.create(0, 0, 1, -1, i, 1, 4, 1), 0);
        }
        x.press(0);
        Bench.lay(x, "a.ex");
        Bench.due("no room", x.create(0, 0, 1, -1, 9, 1, 4, 1), 40);
        x.press(0);
        x.cut(0, 3);
        Bench.due("in place of one, power fails", x.create(0, 0, 1, -1, 5, 1, 4, 1), -3);
        Bench.holds("the tape stays", Bench.tapeIs(x, "a.ex"));
    }

    // ---- Promise 29: get

    @Sentence("Promise 29: 3 entries as for 5, in order (none of them, party NONE, or how & 8: no 3)")
    static void entries() {
        PasskeyHouse x = withAccounts();
        int[][] cases = {{0, 0, 7, 1, 1}, {1, 0, 7, 1, 0}, {0, 0, 8, 1, 2}};
        for (int[] c : cases) {
            Bench.lay(x, "a.ex");
            Bench.due("get", x.get(0, c[0], 5, c[1], c[2], c[3], 4, 1), 0);
            Bench.due("the first that is of the key", four(x, 10), x.account(0, c[4], 0));
        }
        int[][] none = {{0, 0, 9, 1, 1}, {0, 0, 7, 2, 1}, {0, -1, 7, 1, 1}, {0, 0, 7, 1, 9}, {1, 0, 8, 1, 1}};
        for (int[] c : none) {
            Bench.lay(x, "a.ex");
            Bench.due("none", x.get(0, c[0], 5, c[1], c[2], c[3], 4, c[4]), 46);
            Bench.holds("the tape stays", Bench.tapeIs(x, "a.ex"));
        }
    }

    @Sentence("Promise 29: 5 \"up\" false, if how & 1 (else no 5)")
    static void unpressed() {
        PasskeyHouse x = withAccounts();
        for (int how = 0; how <= 3; how++) {
            Bench.lay(x, "a.ex");
            Bench.due("without a press, how " + how, x.get(0, 0, 5, 0, 7, 1, 4, how), (how & 1) != 0 ? 0 : 39);
            x.press(0);
            int taken = x.told(0, 3);
            Bench.lay(x, "a.ex");
            Bench.due("with one", x.get(0, 0, 5, 0, 7, 1, 4, how), 0);
            Bench.due("taken", x.told(0, 3), taken + 1 - (how & 1));
            Bench.due("flags", x.at(19), 1 - (how & 1));
            Bench.lay(x, "a.ex");
            x.get(0, 0, 5, 0, 7, 1, 4, 0);
        }
    }

    @Sentence("Promise 29: 6 and 7 as 8 and 9: if the hand has a token and how & 2")
    static void getMarks() {
        for (int token = 0; token <= 1; token++) {
            for (int how = 0; how <= 3; how++) {
                PasskeyHouse x = withAccounts();
                Bench.setPin(x, 0, 0, "1234");
                if (token == 1) {
                    Bench.due("unlock", x.unlock(0, 0), 0);
                }
                x.press(0);
                Bench.lay(x, "a.ex");
                int terms = x.terms();
                Bench.due("get", x.get(0, 0, 6, 0, 7, 1, 4, how), 0);
                boolean passes = token == 1 && (how & 2) != 0;
                Bench.due("flags", x.at(19), 1 - (how & 1) + (passes ? 4 : 0));
                Bench.due("terms", x.terms(), terms + (passes ? 3 : 2));
                Bench.due("HASH first", x.sort(terms + 1), 7);
                Bench.due("MARK then", x.sort(terms + 2), passes ? 10 : 6);
            }
        }
    }

    @Sentence("Promise 29: With NEXT (how & 4) it is 8 NEXT alone that is sent (no terms are made for it)")
    static void next() {
        PasskeyHouse x = house("a.ex");
        Bench.lay(x, "a.ex");
        Bench.due("no list", x.get(0, 0, 5, -1, 1, 1, 4, 4), 48);
        Bench.due("no terms", x.terms(), 1);
        Bench.holds("the tape stays", Bench.tapeIs(x, "a.ex"));
        for (int i = 1; i <= 4; i++) {
            Bench.store(x, 0, "a.ex", String.valueOf(i));
        }
        Bench.lay(x, "a.ex");
        Bench.due("get", x.get(0, 0, 5, -1, 1, 1, 4, 1), 0);
        for (int how : new int[] {4, 7, 15}) {
            int terms = x.terms();
            int answered = x.told(0, 4);
            Bench.lay(x, "a.ex");
            Bench.due("next", x.get(0, 0, 6, -1, 1, 1, 4, how), 0);
            sorts(x, "SIGN alone", terms, 6);
            Bench.due("one message", x.told(0, 4), answered + 1);
            Bench.holds("its response", x.at(0) == 2 && four(x, 1) == 6 && x.at(14) == 9 && x.at(28) == -1);
        }
        Bench.due("the first one", four(x, 10), x.credential(0, 0, 0));
        Bench.lay(x, "a.ex");
        Bench.due("at its end", x.get(0, 0, 6, -1, 1, 1, 4, 4), 48);
    }

    @Sentence("Promise 29: The response has the id that was answered")
    static void answeredId() {
        PasskeyHouse x = house("a.ex");
        int first = Bench.store(x, 0, "a.ex", "1");
        int second = Bench.store(x, 0, "a.ex", "2");
        Bench.lay(x, "a.ex", Bench.text(396));
        Bench.due("get", x.get(0, 0, 5, -1, 1, 1, 4, 1), 0);
        Bench.due("the last one", four(x, 10), second);
        Bench.due("so many bytes", x.wipe(), 1 + 4 + 1 + 4 + 4 + 1 + 9 + 4);
        Bench.lay(x, "a.ex");
        Bench.due("next", x.get(0, 0, 5, -1, 1, 1, 4, 4), 0);
        Bench.due("the first one", four(x, 10), first);
    }

    @Sentence("Promise 29: SILENT when power fails; the tape stays")
    static void getSilently() {
        for (int how : new int[] {1, 4}) {
            PasskeyHouse x = house("a.ex");
            Bench.store(x, 0, "a.ex", "1");
            Bench.store(x, 0, "a.ex", "2");
            Bench.lay(x, "a.ex");
            Bench.due("get", x.get(0, 0, 5, -1, 1, 1, 4, 1), 0);
            Bench.lay(x, "a.ex");
            x.cut(0, 11);
            Bench.due("SILENT", x.get(0, 0, 5, -1, 1, 1, 4, how), -3);
            Bench.holds("the tape", Bench.tapeIs(x, "a.ex"));
            Bench.due("no answer", x.answer(0, 0), -1);
        }
    }
}
